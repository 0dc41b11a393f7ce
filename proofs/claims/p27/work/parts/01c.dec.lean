theorem dX0_init_0 : decode cX0_init 0 = .ok (.aload_n 0, 1) := by decide +kernel
theorem dX0_init_1 : decode cX0_init 1 = .ok (.invokespecial 3, 3) := by decide +kernel
theorem dX0_init_4 : decode cX0_init 4 = .ok (.aload_n 0, 1) := by decide +kernel
theorem dX0_init_5 : decode cX0_init 5 = .ok (.iconst 0, 1) := by decide +kernel
theorem dX0_init_6 : decode cX0_init 6 = .ok (.putfield 9, 3) := by decide +kernel
theorem dX0_init_9 : decode cX0_init 9 = .ok (.aload_n 0, 1) := by decide +kernel
theorem dX0_init_10 : decode cX0_init 10 = .ok (.iconst 0, 1) := by decide +kernel
theorem dX0_init_11 : decode cX0_init 11 = .ok (.putfield 15, 3) := by decide +kernel
theorem dX0_init_14 : decode cX0_init 14 = .ok (.aload_n 0, 1) := by decide +kernel
theorem dX0_init_15 : decode cX0_init 15 = .ok (.iconst 0, 1) := by decide +kernel
theorem dX0_init_16 : decode cX0_init 16 = .ok (.putfield 18, 3) := by decide +kernel
theorem dX0_init_19 : decode cX0_init 19 = .ok (.aload_n 0, 1) := by decide +kernel
theorem dX0_init_20 : decode cX0_init 20 = .ok (.iconst 0, 1) := by decide +kernel
theorem dX0_init_21 : decode cX0_init 21 = .ok (.putfield 21, 3) := by decide +kernel
theorem dX0_init_24 : decode cX0_init 24 = .ok (.aload_n 0, 1) := by decide +kernel
theorem dX0_init_25 : decode cX0_init 25 = .ok (.new 24, 3) := by decide +kernel
theorem dX0_init_28 : decode cX0_init 28 = .ok (.dup, 1) := by decide +kernel
theorem dX0_init_29 : decode cX0_init 29 = .ok (.bipush 6, 2) := by decide +kernel
theorem dX0_init_31 : decode cX0_init 31 = .ok (.invokespecial 26, 3) := by decide +kernel
theorem dX0_init_34 : decode cX0_init 34 = .ok (.putfield 29, 3) := by decide +kernel
theorem dX0_init_37 : decode cX0_init 37 = .ok (.aload_n 0, 1) := by decide +kernel
theorem dX0_init_38 : decode cX0_init 38 = .ok (.new 24, 3) := by decide +kernel
theorem dX0_init_41 : decode cX0_init 41 = .ok (.dup, 1) := by decide +kernel
theorem dX0_init_42 : decode cX0_init 42 = .ok (.sipush 180, 3) := by decide +kernel
theorem dX0_init_45 : decode cX0_init 45 = .ok (.invokespecial 26, 3) := by decide +kernel
theorem dX0_init_48 : decode cX0_init 48 = .ok (.putfield 33, 3) := by decide +kernel
theorem dX0_init_51 : decode cX0_init 51 = .ok (.aload_n 0, 1) := by decide +kernel
theorem dX0_init_52 : decode cX0_init 52 = .ok (.new 24, 3) := by decide +kernel
theorem dX0_init_55 : decode cX0_init 55 = .ok (.dup, 1) := by decide +kernel
theorem dX0_init_56 : decode cX0_init 56 = .ok (.bipush 6, 2) := by decide +kernel
theorem dX0_init_58 : decode cX0_init 58 = .ok (.invokespecial 26, 3) := by decide +kernel
theorem dX0_init_61 : decode cX0_init 61 = .ok (.putfield 36, 3) := by decide +kernel
theorem dX0_init_64 : decode cX0_init 64 = .ok (.aload_n 0, 1) := by decide +kernel
theorem dX0_init_65 : decode cX0_init 65 = .ok (.new 24, 3) := by decide +kernel
theorem dX0_init_68 : decode cX0_init 68 = .ok (.dup, 1) := by decide +kernel
theorem dX0_init_69 : decode cX0_init 69 = .ok (.bipush 6, 2) := by decide +kernel
theorem dX0_init_71 : decode cX0_init 71 = .ok (.invokespecial 26, 3) := by decide +kernel
theorem dX0_init_74 : decode cX0_init 74 = .ok (.putfield 39, 3) := by decide +kernel
theorem dX0_init_77 : decode cX0_init 77 = .ok (.aload_n 0, 1) := by decide +kernel
theorem dX0_init_78 : decode cX0_init 78 = .ok (.new 24, 3) := by decide +kernel
theorem dX0_init_81 : decode cX0_init 81 = .ok (.dup, 1) := by decide +kernel
theorem dX0_init_82 : decode cX0_init 82 = .ok (.bipush 6, 2) := by decide +kernel
theorem dX0_init_84 : decode cX0_init 84 = .ok (.invokespecial 26, 3) := by decide +kernel
theorem dX0_init_87 : decode cX0_init 87 = .ok (.putfield 42, 3) := by decide +kernel
theorem dX0_init_90 : decode cX0_init 90 = .ok (.aload_n 0, 1) := by decide +kernel
theorem dX0_init_91 : decode cX0_init 91 = .ok (.new 24, 3) := by decide +kernel
theorem dX0_init_94 : decode cX0_init 94 = .ok (.dup, 1) := by decide +kernel
theorem dX0_init_95 : decode cX0_init 95 = .ok (.bipush 6, 2) := by decide +kernel
theorem dX0_init_97 : decode cX0_init 97 = .ok (.invokespecial 26, 3) := by decide +kernel
theorem dX0_init_100 : decode cX0_init 100 = .ok (.putfield 45, 3) := by decide +kernel
theorem dX0_init_103 : decode cX0_init 103 = .ok (.aload_n 0, 1) := by decide +kernel
theorem dX0_init_104 : decode cX0_init 104 = .ok (.new 24, 3) := by decide +kernel
theorem dX0_init_107 : decode cX0_init 107 = .ok (.dup, 1) := by decide +kernel
theorem dX0_init_108 : decode cX0_init 108 = .ok (.bipush 6, 2) := by decide +kernel
theorem dX0_init_110 : decode cX0_init 110 = .ok (.invokespecial 26, 3) := by decide +kernel
theorem dX0_init_113 : decode cX0_init 113 = .ok (.putfield 48, 3) := by decide +kernel
theorem dX0_init_116 : decode cX0_init 116 = .ok (.return_, 1) := by decide +kernel
theorem dX0_startAnew_0 : decode cX0_startAnew 0 = .ok (.aload_n 0, 1) := by decide +kernel
theorem dX0_startAnew_1 : decode cX0_startAnew 1 = .ok (.iconst 0, 1) := by decide +kernel
theorem dX0_startAnew_2 : decode cX0_startAnew 2 = .ok (.putfield 9, 3) := by decide +kernel
theorem dX0_startAnew_5 : decode cX0_startAnew 5 = .ok (.aload_n 0, 1) := by decide +kernel
theorem dX0_startAnew_6 : decode cX0_startAnew 6 = .ok (.iconst 0, 1) := by decide +kernel
theorem dX0_startAnew_7 : decode cX0_startAnew 7 = .ok (.putfield 15, 3) := by decide +kernel
theorem dX0_startAnew_10 : decode cX0_startAnew 10 = .ok (.aload_n 0, 1) := by decide +kernel
theorem dX0_startAnew_11 : decode cX0_startAnew 11 = .ok (.iconst 0, 1) := by decide +kernel
theorem dX0_startAnew_12 : decode cX0_startAnew 12 = .ok (.putfield 18, 3) := by decide +kernel
theorem dX0_startAnew_15 : decode cX0_startAnew 15 = .ok (.aload_n 0, 1) := by decide +kernel
theorem dX0_startAnew_16 : decode cX0_startAnew 16 = .ok (.iconst 0, 1) := by decide +kernel
theorem dX0_startAnew_17 : decode cX0_startAnew 17 = .ok (.putfield 21, 3) := by decide +kernel
theorem dX0_startAnew_20 : decode cX0_startAnew 20 = .ok (.aload_n 0, 1) := by decide +kernel
theorem dX0_startAnew_21 : decode cX0_startAnew 21 = .ok (.getfield 36, 3) := by decide +kernel
theorem dX0_startAnew_24 : decode cX0_startAnew 24 = .ok (.invokevirtual 51, 3) := by decide +kernel
theorem dX0_startAnew_27 : decode cX0_startAnew 27 = .ok (.return_, 1) := by decide +kernel
theorem dX1_init_0 : decode cX1_init 0 = .ok (.aload_n 0, 1) := by decide +kernel
theorem dX1_init_1 : decode cX1_init 1 = .ok (.invokespecial 1, 3) := by decide +kernel
theorem dX1_init_4 : decode cX1_init 4 = .ok (.aload_n 0, 1) := by decide +kernel
theorem dX1_init_5 : decode cX1_init 5 = .ok (.iload_n 1, 1) := by decide +kernel
theorem dX1_init_6 : decode cX1_init 6 = .ok (.ifCond .ge 7, 3) := by decide +kernel
theorem dX1_init_9 : decode cX1_init 9 = .ok (.iconst 0, 1) := by decide +kernel
theorem dX1_init_10 : decode cX1_init 10 = .ok (.goto 4, 3) := by decide +kernel
theorem dX1_init_13 : decode cX1_init 13 = .ok (.iload_n 1, 1) := by decide +kernel
theorem dX1_init_14 : decode cX1_init 14 = .ok (.newarray .int, 2) := by decide +kernel
theorem dX1_init_16 : decode cX1_init 16 = .ok (.putfield 7, 3) := by decide +kernel
theorem dX1_init_19 : decode cX1_init 19 = .ok (.return_, 1) := by decide +kernel
theorem dX1_at_0 : decode cX1_at 0 = .ok (.iload_n 1, 1) := by decide +kernel
theorem dX1_at_1 : decode cX1_at 1 = .ok (.ifCond .lt 21, 3) := by decide +kernel
theorem dX1_at_4 : decode cX1_at 4 = .ok (.iload_n 1, 1) := by decide +kernel
theorem dX1_at_5 : decode cX1_at 5 = .ok (.aload_n 0, 1) := by decide +kernel
theorem dX1_at_6 : decode cX1_at 6 = .ok (.getfield 7, 3) := by decide +kernel
theorem dX1_at_9 : decode cX1_at 9 = .ok (.arraylength, 1) := by decide +kernel
theorem dX1_at_10 : decode cX1_at 10 = .ok (.if_icmp .ge 12, 3) := by decide +kernel
theorem dX1_at_13 : decode cX1_at 13 = .ok (.aload_n 0, 1) := by decide +kernel
theorem dX1_at_14 : decode cX1_at 14 = .ok (.getfield 7, 3) := by decide +kernel
theorem dX1_at_17 : decode cX1_at 17 = .ok (.iload_n 1, 1) := by decide +kernel
theorem dX1_at_18 : decode cX1_at 18 = .ok (.iaload, 1) := by decide +kernel
theorem dX1_at_19 : decode cX1_at 19 = .ok (.goto 4, 3) := by decide +kernel
theorem dX1_at_22 : decode cX1_at 22 = .ok (.iconst 0, 1) := by decide +kernel
theorem dX1_at_23 : decode cX1_at 23 = .ok (.ireturn, 1) := by decide +kernel
theorem dX1_put_0 : decode cX1_put 0 = .ok (.iload_n 1, 1) := by decide +kernel
theorem dX1_put_1 : decode cX1_put 1 = .ok (.ifCond .lt 19, 3) := by decide +kernel
theorem dX1_put_4 : decode cX1_put 4 = .ok (.iload_n 1, 1) := by decide +kernel
theorem dX1_put_5 : decode cX1_put 5 = .ok (.aload_n 0, 1) := by decide +kernel
theorem dX1_put_6 : decode cX1_put 6 = .ok (.getfield 7, 3) := by decide +kernel
theorem dX1_put_9 : decode cX1_put 9 = .ok (.arraylength, 1) := by decide +kernel
theorem dX1_put_10 : decode cX1_put 10 = .ok (.if_icmp .ge 10, 3) := by decide +kernel
theorem dX1_put_13 : decode cX1_put 13 = .ok (.aload_n 0, 1) := by decide +kernel
theorem dX1_put_14 : decode cX1_put 14 = .ok (.getfield 7, 3) := by decide +kernel
theorem dX1_put_17 : decode cX1_put 17 = .ok (.iload_n 1, 1) := by decide +kernel
theorem dX1_put_18 : decode cX1_put 18 = .ok (.iload_n 2, 1) := by decide +kernel
theorem dX1_put_19 : decode cX1_put 19 = .ok (.iastore, 1) := by decide +kernel
theorem dX1_put_20 : decode cX1_put 20 = .ok (.return_, 1) := by decide +kernel
theorem dX1_add_0 : decode cX1_add 0 = .ok (.aload_n 0, 1) := by decide +kernel
theorem dX1_add_1 : decode cX1_add 1 = .ok (.iload_n 1, 1) := by decide +kernel
theorem dX1_add_2 : decode cX1_add 2 = .ok (.aload_n 0, 1) := by decide +kernel
theorem dX1_add_3 : decode cX1_add 3 = .ok (.iload_n 1, 1) := by decide +kernel
theorem dX1_add_4 : decode cX1_add 4 = .ok (.invokevirtual 13, 3) := by decide +kernel
theorem dX1_add_7 : decode cX1_add 7 = .ok (.iload_n 2, 1) := by decide +kernel
theorem dX1_add_8 : decode cX1_add 8 = .ok (.iadd, 1) := by decide +kernel
theorem dX1_add_9 : decode cX1_add 9 = .ok (.invokevirtual 17, 3) := by decide +kernel
theorem dX1_add_12 : decode cX1_add 12 = .ok (.return_, 1) := by decide +kernel
theorem dX1_clear_0 : decode cX1_clear 0 = .ok (.iconst 0, 1) := by decide +kernel
theorem dX1_clear_1 : decode cX1_clear 1 = .ok (.istore_n 1, 1) := by decide +kernel
theorem dX1_clear_2 : decode cX1_clear 2 = .ok (.iload_n 1, 1) := by decide +kernel
theorem dX1_clear_3 : decode cX1_clear 3 = .ok (.aload_n 0, 1) := by decide +kernel
theorem dX1_clear_4 : decode cX1_clear 4 = .ok (.getfield 7, 3) := by decide +kernel
theorem dX1_clear_7 : decode cX1_clear 7 = .ok (.arraylength, 1) := by decide +kernel
theorem dX1_clear_8 : decode cX1_clear 8 = .ok (.if_icmp .ge 16, 3) := by decide +kernel
theorem dX1_clear_11 : decode cX1_clear 11 = .ok (.aload_n 0, 1) := by decide +kernel
theorem dX1_clear_12 : decode cX1_clear 12 = .ok (.getfield 7, 3) := by decide +kernel
theorem dX1_clear_15 : decode cX1_clear 15 = .ok (.iload_n 1, 1) := by decide +kernel
theorem dX1_clear_16 : decode cX1_clear 16 = .ok (.iconst 0, 1) := by decide +kernel
theorem dX1_clear_17 : decode cX1_clear 17 = .ok (.iastore, 1) := by decide +kernel
theorem dX1_clear_18 : decode cX1_clear 18 = .ok (.iinc 1 1, 3) := by decide +kernel
theorem dX1_clear_21 : decode cX1_clear 21 = .ok (.goto (-19), 3) := by decide +kernel
theorem dX1_clear_24 : decode cX1_clear 24 = .ok (.return_, 1) := by decide +kernel
theorem dX1_take_0 : decode cX1_take 0 = .ok (.iconst 0, 1) := by decide +kernel
theorem dX1_take_1 : decode cX1_take 1 = .ok (.istore_n 2, 1) := by decide +kernel
theorem dX1_take_2 : decode cX1_take 2 = .ok (.iload_n 2, 1) := by decide +kernel
theorem dX1_take_3 : decode cX1_take 3 = .ok (.aload_n 0, 1) := by decide +kernel
theorem dX1_take_4 : decode cX1_take 4 = .ok (.getfield 7, 3) := by decide +kernel
theorem dX1_take_7 : decode cX1_take 7 = .ok (.arraylength, 1) := by decide +kernel
theorem dX1_take_8 : decode cX1_take 8 = .ok (.if_icmp .ge 20, 3) := by decide +kernel
theorem dX1_take_11 : decode cX1_take 11 = .ok (.aload_n 0, 1) := by decide +kernel
theorem dX1_take_12 : decode cX1_take 12 = .ok (.getfield 7, 3) := by decide +kernel
theorem dX1_take_15 : decode cX1_take 15 = .ok (.iload_n 2, 1) := by decide +kernel
theorem dX1_take_16 : decode cX1_take 16 = .ok (.aload_n 1, 1) := by decide +kernel
theorem dX1_take_17 : decode cX1_take 17 = .ok (.iload_n 2, 1) := by decide +kernel
theorem dX1_take_18 : decode cX1_take 18 = .ok (.invokevirtual 13, 3) := by decide +kernel
theorem dX1_take_21 : decode cX1_take 21 = .ok (.iastore, 1) := by decide +kernel
theorem dX1_take_22 : decode cX1_take 22 = .ok (.iinc 2 1, 3) := by decide +kernel
theorem dX1_take_25 : decode cX1_take 25 = .ok (.goto (-23), 3) := by decide +kernel
theorem dX1_take_28 : decode cX1_take 28 = .ok (.return_, 1) := by decide +kernel
theorem dX2_init_0 : decode cX2_init 0 = .ok (.aload_n 0, 1) := by decide +kernel
theorem dX2_init_1 : decode cX2_init 1 = .ok (.invokespecial 3, 3) := by decide +kernel
theorem dX2_init_4 : decode cX2_init 4 = .ok (.aload_n 0, 1) := by decide +kernel
theorem dX2_init_5 : decode cX2_init 5 = .ok (.new 9, 3) := by decide +kernel
theorem dX2_init_8 : decode cX2_init 8 = .ok (.dup, 1) := by decide +kernel
theorem dX2_init_9 : decode cX2_init 9 = .ok (.bipush 19, 2) := by decide +kernel
theorem dX2_init_11 : decode cX2_init 11 = .ok (.invokespecial 11, 3) := by decide +kernel
theorem dX2_init_14 : decode cX2_init 14 = .ok (.putfield 14, 3) := by decide +kernel
theorem dX2_init_17 : decode cX2_init 17 = .ok (.aload_n 0, 1) := by decide +kernel
theorem dX2_init_18 : decode cX2_init 18 = .ok (.iconst 0, 1) := by decide +kernel
theorem dX2_init_19 : decode cX2_init 19 = .ok (.putfield 18, 3) := by decide +kernel
theorem dX2_init_22 : decode cX2_init 22 = .ok (.aload_n 0, 1) := by decide +kernel
theorem dX2_init_23 : decode cX2_init 23 = .ok (.iconst 0, 1) := by decide +kernel
theorem dX2_init_24 : decode cX2_init 24 = .ok (.putfield 22, 3) := by decide +kernel
theorem dX2_init_27 : decode cX2_init 27 = .ok (.aload_n 0, 1) := by decide +kernel
theorem dX2_init_28 : decode cX2_init 28 = .ok (.iconst 0, 1) := by decide +kernel
theorem dX2_init_29 : decode cX2_init 29 = .ok (.putfield 25, 3) := by decide +kernel
theorem dX2_init_32 : decode cX2_init 32 = .ok (.aload_n 0, 1) := by decide +kernel
theorem dX2_init_33 : decode cX2_init 33 = .ok (.new 9, 3) := by decide +kernel
theorem dX2_init_36 : decode cX2_init 36 = .ok (.dup, 1) := by decide +kernel
theorem dX2_init_37 : decode cX2_init 37 = .ok (.bipush 6, 2) := by decide +kernel
theorem dX2_init_39 : decode cX2_init 39 = .ok (.invokespecial 11, 3) := by decide +kernel
theorem dX2_init_42 : decode cX2_init 42 = .ok (.putfield 28, 3) := by decide +kernel
theorem dX2_init_45 : decode cX2_init 45 = .ok (.aload_n 0, 1) := by decide +kernel
theorem dX2_init_46 : decode cX2_init 46 = .ok (.new 31, 3) := by decide +kernel
theorem dX2_init_49 : decode cX2_init 49 = .ok (.dup, 1) := by decide +kernel
theorem dX2_init_50 : decode cX2_init 50 = .ok (.invokespecial 33, 3) := by decide +kernel
theorem dX2_init_53 : decode cX2_init 53 = .ok (.putfield 34, 3) := by decide +kernel
theorem dX2_init_56 : decode cX2_init 56 = .ok (.aload_n 0, 1) := by decide +kernel
theorem dX2_init_57 : decode cX2_init 57 = .ok (.new 31, 3) := by decide +kernel
theorem dX2_init_60 : decode cX2_init 60 = .ok (.dup, 1) := by decide +kernel
theorem dX2_init_61 : decode cX2_init 61 = .ok (.invokespecial 33, 3) := by decide +kernel
theorem dX2_init_64 : decode cX2_init 64 = .ok (.putfield 38, 3) := by decide +kernel
theorem dX2_init_67 : decode cX2_init 67 = .ok (.aload_n 0, 1) := by decide +kernel
theorem dX2_init_68 : decode cX2_init 68 = .ok (.iconst 0, 1) := by decide +kernel
theorem dX2_init_69 : decode cX2_init 69 = .ok (.putfield 41, 3) := by decide +kernel
theorem dX2_init_72 : decode cX2_init 72 = .ok (.aload_n 0, 1) := by decide +kernel
theorem dX2_init_73 : decode cX2_init 73 = .ok (.new 9, 3) := by decide +kernel
theorem dX2_init_76 : decode cX2_init 76 = .ok (.dup, 1) := by decide +kernel
theorem dX2_init_77 : decode cX2_init 77 = .ok (.bipush 6, 2) := by decide +kernel
theorem dX2_init_79 : decode cX2_init 79 = .ok (.invokespecial 11, 3) := by decide +kernel
theorem dX2_init_82 : decode cX2_init 82 = .ok (.putfield 45, 3) := by decide +kernel
theorem dX2_init_85 : decode cX2_init 85 = .ok (.aload_n 0, 1) := by decide +kernel
theorem dX2_init_86 : decode cX2_init 86 = .ok (.new 9, 3) := by decide +kernel
theorem dX2_init_89 : decode cX2_init 89 = .ok (.dup, 1) := by decide +kernel
theorem dX2_init_90 : decode cX2_init 90 = .ok (.bipush 31, 2) := by decide +kernel
theorem dX2_init_92 : decode cX2_init 92 = .ok (.invokespecial 11, 3) := by decide +kernel
theorem dX2_init_95 : decode cX2_init 95 = .ok (.putfield 48, 3) := by decide +kernel
theorem dX2_init_98 : decode cX2_init 98 = .ok (.aload_n 0, 1) := by decide +kernel
theorem dX2_init_99 : decode cX2_init 99 = .ok (.new 9, 3) := by decide +kernel
theorem dX2_init_102 : decode cX2_init 102 = .ok (.dup, 1) := by decide +kernel
theorem dX2_init_103 : decode cX2_init 103 = .ok (.bipush 40, 2) := by decide +kernel
theorem dX2_init_105 : decode cX2_init 105 = .ok (.invokespecial 11, 3) := by decide +kernel
theorem dX2_init_108 : decode cX2_init 108 = .ok (.putfield 51, 3) := by decide +kernel
theorem dX2_init_111 : decode cX2_init 111 = .ok (.return_, 1) := by decide +kernel
theorem dX2_letter_0 : decode cX2_letter 0 = .ok (.iload_n 1, 1) := by decide +kernel
theorem dX2_letter_1 : decode cX2_letter 1 = .ok (.bipush 32, 2) := by decide +kernel
theorem dX2_letter_3 : decode cX2_letter 3 = .ok (.if_icmp .lt 9, 3) := by decide +kernel
theorem dX2_letter_6 : decode cX2_letter 6 = .ok (.iload_n 1, 1) := by decide +kernel
theorem dX2_letter_7 : decode cX2_letter 7 = .ok (.bipush 126, 2) := by decide +kernel
theorem dX2_letter_9 : decode cX2_letter 9 = .ok (.if_icmp .le 6, 3) := by decide +kernel
theorem dX2_letter_12 : decode cX2_letter 12 = .ok (.bipush (-102), 2) := by decide +kernel
theorem dX2_letter_14 : decode cX2_letter 14 = .ok (.ireturn, 1) := by decide +kernel
theorem dX2_letter_15 : decode cX2_letter 15 = .ok (.aload_n 0, 1) := by decide +kernel
theorem dX2_letter_16 : decode cX2_letter 16 = .ok (.getfield 18, 3) := by decide +kernel
theorem dX2_letter_19 : decode cX2_letter 19 = .ok (.bipush 19, 2) := by decide +kernel
theorem dX2_letter_21 : decode cX2_letter 21 = .ok (.if_icmp .lt 6, 3) := by decide +kernel
theorem dX2_letter_24 : decode cX2_letter 24 = .ok (.bipush (-104), 2) := by decide +kernel
theorem dX2_letter_26 : decode cX2_letter 26 = .ok (.ireturn, 1) := by decide +kernel
theorem dX2_letter_27 : decode cX2_letter 27 = .ok (.aload_n 0, 1) := by decide +kernel
theorem dX2_letter_28 : decode cX2_letter 28 = .ok (.getfield 14, 3) := by decide +kernel
theorem dX2_letter_31 : decode cX2_letter 31 = .ok (.aload_n 0, 1) := by decide +kernel
theorem dX2_letter_32 : decode cX2_letter 32 = .ok (.getfield 18, 3) := by decide +kernel
theorem dX2_letter_35 : decode cX2_letter 35 = .ok (.iload_n 1, 1) := by decide +kernel
theorem dX2_letter_36 : decode cX2_letter 36 = .ok (.invokevirtual 54, 3) := by decide +kernel
theorem dX2_letter_39 : decode cX2_letter 39 = .ok (.aload_n 0, 1) := by decide +kernel
theorem dX2_letter_40 : decode cX2_letter 40 = .ok (.dup, 1) := by decide +kernel
theorem dX2_letter_41 : decode cX2_letter 41 = .ok (.getfield 18, 3) := by decide +kernel
theorem dX2_letter_44 : decode cX2_letter 44 = .ok (.iconst 1, 1) := by decide +kernel
theorem dX2_letter_45 : decode cX2_letter 45 = .ok (.iadd, 1) := by decide +kernel
theorem dX2_letter_46 : decode cX2_letter 46 = .ok (.putfield 18, 3) := by decide +kernel
theorem dX2_letter_49 : decode cX2_letter 49 = .ok (.aload_n 0, 1) := by decide +kernel
theorem dX2_letter_50 : decode cX2_letter 50 = .ok (.getfield 18, 3) := by decide +kernel
theorem dX2_letter_53 : decode cX2_letter 53 = .ok (.ireturn, 1) := by decide +kernel
theorem dX2_fault_0 : decode cX2_fault 0 = .ok (.iconst 0, 1) := by decide +kernel
theorem dX2_fault_1 : decode cX2_fault 1 = .ok (.istore_n 1, 1) := by decide +kernel
theorem dX2_fault_2 : decode cX2_fault 2 = .ok (.iload_n 1, 1) := by decide +kernel
theorem dX2_fault_3 : decode cX2_fault 3 = .ok (.aload_n 0, 1) := by decide +kernel
theorem dX2_fault_4 : decode cX2_fault 4 = .ok (.getfield 18, 3) := by decide +kernel
theorem dX2_fault_7 : decode cX2_fault 7 = .ok (.if_icmp .ge 26, 3) := by decide +kernel
theorem dX2_fault_10 : decode cX2_fault 10 = .ok (.iload_n 1, 1) := by decide +kernel
theorem dX2_fault_11 : decode cX2_fault 11 = .ok (.aload_n 0, 1) := by decide +kernel
theorem dX2_fault_12 : decode cX2_fault 12 = .ok (.getfield 14, 3) := by decide +kernel
theorem dX2_fault_15 : decode cX2_fault 15 = .ok (.iload_n 1, 1) := by decide +kernel
theorem dX2_fault_16 : decode cX2_fault 16 = .ok (.invokevirtual 58, 3) := by decide +kernel
theorem dX2_fault_19 : decode cX2_fault 19 = .ok (.invokestatic 62, 3) := by decide +kernel
theorem dX2_fault_22 : decode cX2_fault 22 = .ok (.ifCond .ne 5, 3) := by decide +kernel
theorem dX2_fault_25 : decode cX2_fault 25 = .ok (.iload_n 1, 1) := by decide +kernel
theorem dX2_fault_26 : decode cX2_fault 26 = .ok (.ireturn, 1) := by decide +kernel
theorem dX2_fault_27 : decode cX2_fault 27 = .ok (.iinc 1 1, 3) := by decide +kernel
theorem dX2_fault_30 : decode cX2_fault 30 = .ok (.goto (-28), 3) := by decide +kernel
theorem dX2_fault_33 : decode cX2_fault 33 = .ok (.aload_n 0, 1) := by decide +kernel
theorem dX2_fault_34 : decode cX2_fault 34 = .ok (.getfield 18, 3) := by decide +kernel
theorem dX2_fault_37 : decode cX2_fault 37 = .ok (.ireturn, 1) := by decide +kernel
theorem dX2_street_0 : decode cX2_street 0 = .ok (.aload_n 0, 1) := by decide +kernel
theorem dX2_street_1 : decode cX2_street 1 = .ok (.invokevirtual 66, 3) := by decide +kernel
theorem dX2_street_4 : decode cX2_street 4 = .ok (.istore_n 1, 1) := by decide +kernel
theorem dX2_street_5 : decode cX2_street 5 = .ok (.iload_n 1, 1) := by decide +kernel
theorem dX2_street_6 : decode cX2_street 6 = .ok (.iconst 2, 1) := by decide +kernel
theorem dX2_street_7 : decode cX2_street 7 = .ok (.if_icmp .ge 6, 3) := by decide +kernel
theorem dX2_street_10 : decode cX2_street 10 = .ok (.bipush (-103), 2) := by decide +kernel
theorem dX2_street_12 : decode cX2_street 12 = .ok (.ireturn, 1) := by decide +kernel
theorem dX2_street_13 : decode cX2_street 13 = .ok (.aload_n 0, 1) := by decide +kernel
theorem dX2_street_14 : decode cX2_street 14 = .ok (.iload_n 1, 1) := by decide +kernel
theorem dX2_street_15 : decode cX2_street 15 = .ok (.putfield 22, 3) := by decide +kernel
theorem dX2_street_18 : decode cX2_street 18 = .ok (.aload_n 0, 1) := by decide +kernel
theorem dX2_street_19 : decode cX2_street 19 = .ok (.getfield 34, 3) := by decide +kernel
theorem dX2_street_22 : decode cX2_street 22 = .ok (.invokevirtual 70, 3) := by decide +kernel
theorem dX2_street_25 : decode cX2_street 25 = .ok (.iconst 0, 1) := by decide +kernel
theorem dX2_street_26 : decode cX2_street 26 = .ok (.istore_n 2, 1) := by decide +kernel
theorem dX2_street_27 : decode cX2_street 27 = .ok (.iload_n 2, 1) := by decide +kernel
theorem dX2_street_28 : decode cX2_street 28 = .ok (.aload_n 0, 1) := by decide +kernel
theorem dX2_street_29 : decode cX2_street 29 = .ok (.getfield 22, 3) := by decide +kernel
theorem dX2_street_32 : decode cX2_street 32 = .ok (.if_icmp .ge 56, 3) := by decide +kernel
theorem dX2_street_35 : decode cX2_street 35 = .ok (.iload_n 2, 1) := by decide +kernel
theorem dX2_street_36 : decode cX2_street 36 = .ok (.iconst 3, 1) := by decide +kernel
theorem dX2_street_37 : decode cX2_street 37 = .ok (.imul, 1) := by decide +kernel
theorem dX2_street_38 : decode cX2_street 38 = .ok (.istore_n 3, 1) := by decide +kernel
theorem dX2_street_39 : decode cX2_street 39 = .ok (.aload_n 0, 1) := by decide +kernel
theorem dX2_street_40 : decode cX2_street 40 = .ok (.getfield 28, 3) := by decide +kernel
theorem dX2_street_43 : decode cX2_street 43 = .ok (.iload_n 2, 1) := by decide +kernel
theorem dX2_street_44 : decode cX2_street 44 = .ok (.aload_n 0, 1) := by decide +kernel
theorem dX2_street_45 : decode cX2_street 45 = .ok (.getfield 14, 3) := by decide +kernel
theorem dX2_street_48 : decode cX2_street 48 = .ok (.iload_n 3, 1) := by decide +kernel
theorem dX2_street_49 : decode cX2_street 49 = .ok (.invokevirtual 58, 3) := by decide +kernel
theorem dX2_street_52 : decode cX2_street 52 = .ok (.invokestatic 73, 3) := by decide +kernel
theorem dX2_street_55 : decode cX2_street 55 = .ok (.invokevirtual 54, 3) := by decide +kernel
theorem dX2_street_58 : decode cX2_street 58 = .ok (.aload_n 0, 1) := by decide +kernel
theorem dX2_street_59 : decode cX2_street 59 = .ok (.getfield 34, 3) := by decide +kernel
theorem dX2_street_62 : decode cX2_street 62 = .ok (.getfield 76, 3) := by decide +kernel
theorem dX2_street_65 : decode cX2_street 65 = .ok (.iload_n 2, 1) := by decide +kernel
theorem dX2_street_66 : decode cX2_street 66 = .ok (.aload_n 0, 1) := by decide +kernel
theorem dX2_street_67 : decode cX2_street 67 = .ok (.getfield 14, 3) := by decide +kernel
theorem dX2_street_70 : decode cX2_street 70 = .ok (.iload_n 3, 1) := by decide +kernel
theorem dX2_street_71 : decode cX2_street 71 = .ok (.iconst 1, 1) := by decide +kernel
theorem dX2_street_72 : decode cX2_street 72 = .ok (.iadd, 1) := by decide +kernel
theorem dX2_street_73 : decode cX2_street 73 = .ok (.invokevirtual 58, 3) := by decide +kernel
theorem dX2_street_76 : decode cX2_street 76 = .ok (.bipush 48, 2) := by decide +kernel
theorem dX2_street_78 : decode cX2_street 78 = .ok (.isub, 1) := by decide +kernel
theorem dX2_street_79 : decode cX2_street 79 = .ok (.invokevirtual 54, 3) := by decide +kernel
theorem dX2_street_82 : decode cX2_street 82 = .ok (.iinc 2 1, 3) := by decide +kernel
theorem dX2_street_85 : decode cX2_street 85 = .ok (.goto (-58), 3) := by decide +kernel
theorem dX2_street_88 : decode cX2_street 88 = .ok (.aload_n 0, 1) := by decide +kernel
theorem dX2_street_89 : decode cX2_street 89 = .ok (.iconst 0, 1) := by decide +kernel
theorem dX2_street_90 : decode cX2_street 90 = .ok (.putfield 41, 3) := by decide +kernel
theorem dX2_street_93 : decode cX2_street 93 = .ok (.aload_n 0, 1) := by decide +kernel
theorem dX2_street_94 : decode cX2_street 94 = .ok (.iconst 0, 1) := by decide +kernel
theorem dX2_street_95 : decode cX2_street 95 = .ok (.putfield 18, 3) := by decide +kernel
theorem dX2_street_98 : decode cX2_street 98 = .ok (.aload_n 0, 1) := by decide +kernel
theorem dX2_street_99 : decode cX2_street 99 = .ok (.dup, 1) := by decide +kernel
theorem dX2_street_100 : decode cX2_street 100 = .ok (.getfield 25, 3) := by decide +kernel
theorem dX2_street_103 : decode cX2_street 103 = .ok (.iconst 1, 1) := by decide +kernel
theorem dX2_street_104 : decode cX2_street 104 = .ok (.iadd, 1) := by decide +kernel
theorem dX2_street_105 : decode cX2_street 105 = .ok (.putfield 25, 3) := by decide +kernel
theorem dX2_street_108 : decode cX2_street 108 = .ok (.aload_n 0, 1) := by decide +kernel
theorem dX2_street_109 : decode cX2_street 109 = .ok (.getfield 22, 3) := by decide +kernel
theorem dX2_street_112 : decode cX2_street 112 = .ok (.ireturn, 1) := by decide +kernel
theorem dX2_about_0 : decode cX2_about 0 = .ok (.aload_n 0, 1) := by decide +kernel
theorem dX2_about_1 : decode cX2_about 1 = .ok (.iload_n 1, 1) := by decide +kernel
theorem dX2_about_2 : decode cX2_about 2 = .ok (.invokevirtual 79, 3) := by decide +kernel
theorem dX2_about_5 : decode cX2_about 5 = .ok (.ifCond .ne 6, 3) := by decide +kernel
theorem dX2_about_8 : decode cX2_about 8 = .ok (.bipush (-101), 2) := by decide +kernel
theorem dX2_about_10 : decode cX2_about 10 = .ok (.ireturn, 1) := by decide +kernel
theorem dX2_about_11 : decode cX2_about 11 = .ok (.iload_n 2, 1) := by decide +kernel
theorem dX2_about_12 : decode cX2_about 12 = .ok (.ifCond .lt 8, 3) := by decide +kernel
theorem dX2_about_15 : decode cX2_about 15 = .ok (.iload_n 2, 1) := by decide +kernel
theorem dX2_about_16 : decode cX2_about 16 = .ok (.iconst 5, 1) := by decide +kernel
theorem dX2_about_17 : decode cX2_about 17 = .ok (.if_icmp .le 6, 3) := by decide +kernel
theorem dX2_about_20 : decode cX2_about 20 = .ok (.bipush (-102), 2) := by decide +kernel
theorem dX2_about_22 : decode cX2_about 22 = .ok (.ireturn, 1) := by decide +kernel
theorem dX2_about_23 : decode cX2_about 23 = .ok (.iload_n 2, 1) := by decide +kernel
theorem dX2_about_24 : decode cX2_about 24 = .ok (.tableswitch 81 0 4 #[36, 45, 57, 63, 75], 36) := by decide +kernel
theorem dX2_about_60 : decode cX2_about 60 = .ok (.aload_n 0, 1) := by decide +kernel
theorem dX2_about_61 : decode cX2_about 61 = .ok (.getfield 28, 3) := by decide +kernel
theorem dX2_about_64 : decode cX2_about 64 = .ok (.iload_n 1, 1) := by decide +kernel
theorem dX2_about_65 : decode cX2_about 65 = .ok (.invokevirtual 58, 3) := by decide +kernel
theorem dX2_about_68 : decode cX2_about 68 = .ok (.ireturn, 1) := by decide +kernel
theorem dX2_about_69 : decode cX2_about 69 = .ok (.aload_n 0, 1) := by decide +kernel
theorem dX2_about_70 : decode cX2_about 70 = .ok (.getfield 34, 3) := by decide +kernel
theorem dX2_about_73 : decode cX2_about 73 = .ok (.getfield 76, 3) := by decide +kernel
theorem dX2_about_76 : decode cX2_about 76 = .ok (.iload_n 1, 1) := by decide +kernel
theorem dX2_about_77 : decode cX2_about 77 = .ok (.invokevirtual 58, 3) := by decide +kernel
theorem dX2_about_80 : decode cX2_about 80 = .ok (.ireturn, 1) := by decide +kernel
theorem dX2_about_81 : decode cX2_about 81 = .ok (.aload_n 0, 1) := by decide +kernel
theorem dX2_about_82 : decode cX2_about 82 = .ok (.iload_n 1, 1) := by decide +kernel
theorem dX2_about_83 : decode cX2_about 83 = .ok (.invokevirtual 83, 3) := by decide +kernel
theorem dX2_about_86 : decode cX2_about 86 = .ok (.ireturn, 1) := by decide +kernel
theorem dX2_about_87 : decode cX2_about 87 = .ok (.aload_n 0, 1) := by decide +kernel
theorem dX2_about_88 : decode cX2_about 88 = .ok (.getfield 34, 3) := by decide +kernel
theorem dX2_about_91 : decode cX2_about 91 = .ok (.getfield 86, 3) := by decide +kernel
theorem dX2_about_94 : decode cX2_about 94 = .ok (.iload_n 1, 1) := by decide +kernel
theorem dX2_about_95 : decode cX2_about 95 = .ok (.invokevirtual 58, 3) := by decide +kernel
theorem dX2_about_98 : decode cX2_about 98 = .ok (.ireturn, 1) := by decide +kernel
theorem dX2_about_99 : decode cX2_about 99 = .ok (.aload_n 0, 1) := by decide +kernel
theorem dX2_about_100 : decode cX2_about 100 = .ok (.iload_n 1, 1) := by decide +kernel
theorem dX2_about_101 : decode cX2_about 101 = .ok (.invokevirtual 89, 3) := by decide +kernel
theorem dX2_about_104 : decode cX2_about 104 = .ok (.ireturn, 1) := by decide +kernel
theorem dX2_about_105 : decode cX2_about 105 = .ok (.aload_n 0, 1) := by decide +kernel
theorem dX2_about_106 : decode cX2_about 106 = .ok (.aload_n 0, 1) := by decide +kernel
theorem dX2_about_107 : decode cX2_about 107 = .ok (.getfield 34, 3) := by decide +kernel
theorem dX2_about_110 : decode cX2_about 110 = .ok (.getfield 76, 3) := by decide +kernel
theorem dX2_about_113 : decode cX2_about 113 = .ok (.iload_n 1, 1) := by decide +kernel
theorem dX2_about_114 : decode cX2_about 114 = .ok (.invokevirtual 92, 3) := by decide +kernel
theorem dX2_about_117 : decode cX2_about 117 = .ok (.ireturn, 1) := by decide +kernel
theorem dX2_as_0 : decode cX2_as 0 = .ok (.aload_n 0, 1) := by decide +kernel
theorem dX2_as_1 : decode cX2_as 1 = .ok (.iload_n 1, 1) := by decide +kernel
theorem dX2_as_2 : decode cX2_as 2 = .ok (.invokevirtual 79, 3) := by decide +kernel
theorem dX2_as_5 : decode cX2_as 5 = .ok (.ifCond .ne 6, 3) := by decide +kernel
theorem dX2_as_8 : decode cX2_as 8 = .ok (.bipush (-101), 2) := by decide +kernel
theorem dX2_as_10 : decode cX2_as 10 = .ok (.ireturn, 1) := by decide +kernel
theorem dX2_as_11 : decode cX2_as 11 = .ok (.iload_n 2, 1) := by decide +kernel
theorem dX2_as_12 : decode cX2_as 12 = .ok (.ifCond .lt 8, 3) := by decide +kernel
theorem dX2_as_15 : decode cX2_as 15 = .ok (.iload_n 2, 1) := by decide +kernel
theorem dX2_as_16 : decode cX2_as 16 = .ok (.iconst 4, 1) := by decide +kernel
theorem dX2_as_17 : decode cX2_as 17 = .ok (.if_icmp .le 6, 3) := by decide +kernel
theorem dX2_as_20 : decode cX2_as 20 = .ok (.bipush (-102), 2) := by decide +kernel
theorem dX2_as_22 : decode cX2_as 22 = .ok (.ireturn, 1) := by decide +kernel
theorem dX2_as_23 : decode cX2_as 23 = .ok (.aload_n 0, 1) := by decide +kernel
theorem dX2_as_24 : decode cX2_as 24 = .ok (.getfield 28, 3) := by decide +kernel
theorem dX2_as_27 : decode cX2_as 27 = .ok (.iload_n 1, 1) := by decide +kernel
theorem dX2_as_28 : decode cX2_as 28 = .ok (.invokevirtual 58, 3) := by decide +kernel
theorem dX2_as_31 : decode cX2_as 31 = .ok (.iload_n 2, 1) := by decide +kernel
theorem dX2_as_32 : decode cX2_as 32 = .ok (.invokestatic 96, 3) := by decide +kernel
theorem dX2_as_35 : decode cX2_as 35 = .ok (.ifCond .eq 7, 3) := by decide +kernel
theorem dX2_as_38 : decode cX2_as 38 = .ok (.iload_n 1, 1) := by decide +kernel
theorem dX2_as_39 : decode cX2_as 39 = .ok (.goto 4, 3) := by decide +kernel
theorem dX2_as_42 : decode cX2_as 42 = .ok (.iconst (-1), 1) := by decide +kernel
theorem dX2_as_43 : decode cX2_as 43 = .ok (.ireturn, 1) := by decide +kernel
theorem dX2_birth_0 : decode cX2_birth 0 = .ok (.aload_n 0, 1) := by decide +kernel
theorem dX2_birth_1 : decode cX2_birth 1 = .ok (.iload_n 1, 1) := by decide +kernel
theorem dX2_birth_2 : decode cX2_birth 2 = .ok (.invokevirtual 79, 3) := by decide +kernel
theorem dX2_birth_5 : decode cX2_birth 5 = .ok (.ifCond .ne 6, 3) := by decide +kernel
theorem dX2_birth_8 : decode cX2_birth 8 = .ok (.bipush (-101), 2) := by decide +kernel
theorem dX2_birth_10 : decode cX2_birth 10 = .ok (.ireturn, 1) := by decide +kernel
theorem dX2_birth_11 : decode cX2_birth 11 = .ok (.aload_n 0, 1) := by decide +kernel
theorem dX2_birth_12 : decode cX2_birth 12 = .ok (.getfield 28, 3) := by decide +kernel
theorem dX2_birth_15 : decode cX2_birth 15 = .ok (.iload_n 1, 1) := by decide +kernel
theorem dX2_birth_16 : decode cX2_birth 16 = .ok (.invokevirtual 58, 3) := by decide +kernel
theorem dX2_birth_19 : decode cX2_birth 19 = .ok (.iconst 2, 1) := by decide +kernel
theorem dX2_birth_20 : decode cX2_birth 20 = .ok (.invokestatic 96, 3) := by decide +kernel
theorem dX2_birth_23 : decode cX2_birth 23 = .ok (.ifCond .eq 6, 3) := by decide +kernel
theorem dX2_birth_26 : decode cX2_birth 26 = .ok (.bipush (-103), 2) := by decide +kernel
theorem dX2_birth_28 : decode cX2_birth 28 = .ok (.ireturn, 1) := by decide +kernel
theorem dX2_birth_29 : decode cX2_birth 29 = .ok (.aload_n 0, 1) := by decide +kernel
theorem dX2_birth_30 : decode cX2_birth 30 = .ok (.aload_n 0, 1) := by decide +kernel
theorem dX2_birth_31 : decode cX2_birth 31 = .ok (.getfield 34, 3) := by decide +kernel
theorem dX2_birth_34 : decode cX2_birth 34 = .ok (.getfield 76, 3) := by decide +kernel
theorem dX2_birth_37 : decode cX2_birth 37 = .ok (.iload_n 1, 1) := by decide +kernel
theorem dX2_birth_38 : decode cX2_birth 38 = .ok (.invokevirtual 99, 3) := by decide +kernel
theorem dX2_birth_41 : decode cX2_birth 41 = .ok (.aload_n 0, 1) := by decide +kernel
theorem dX2_birth_42 : decode cX2_birth 42 = .ok (.getfield 34, 3) := by decide +kernel
theorem dX2_birth_45 : decode cX2_birth 45 = .ok (.dup, 1) := by decide +kernel
theorem dX2_birth_46 : decode cX2_birth 46 = .ok (.getfield 103, 3) := by decide +kernel
theorem dX2_birth_49 : decode cX2_birth 49 = .ok (.iconst 1, 1) := by decide +kernel
theorem dX2_birth_50 : decode cX2_birth 50 = .ok (.iadd, 1) := by decide +kernel
theorem dX2_birth_51 : decode cX2_birth 51 = .ok (.putfield 103, 3) := by decide +kernel
theorem dX2_birth_54 : decode cX2_birth 54 = .ok (.aload_n 0, 1) := by decide +kernel
theorem dX2_birth_55 : decode cX2_birth 55 = .ok (.getfield 34, 3) := by decide +kernel
theorem dX2_birth_58 : decode cX2_birth 58 = .ok (.getfield 86, 3) := by decide +kernel
theorem dX2_birth_61 : decode cX2_birth 61 = .ok (.iload_n 1, 1) := by decide +kernel
theorem dX2_birth_62 : decode cX2_birth 62 = .ok (.iconst 1, 1) := by decide +kernel
theorem dX2_birth_63 : decode cX2_birth 63 = .ok (.invokevirtual 106, 3) := by decide +kernel
theorem dX2_birth_66 : decode cX2_birth 66 = .ok (.aload_n 0, 1) := by decide +kernel
theorem dX2_birth_67 : decode cX2_birth 67 = .ok (.iload_n 1, 1) := by decide +kernel
theorem dX2_birth_68 : decode cX2_birth 68 = .ok (.invokevirtual 109, 3) := by decide +kernel
theorem dX2_birth_71 : decode cX2_birth 71 = .ok (.ifCond .ne 5, 3) := by decide +kernel
theorem dX2_birth_74 : decode cX2_birth 74 = .ok (.iconst 1, 1) := by decide +kernel
theorem dX2_birth_75 : decode cX2_birth 75 = .ok (.ireturn, 1) := by decide +kernel
theorem dX2_birth_76 : decode cX2_birth 76 = .ok (.aload_n 0, 1) := by decide +kernel
theorem dX2_birth_77 : decode cX2_birth 77 = .ok (.getfield 34, 3) := by decide +kernel
theorem dX2_birth_80 : decode cX2_birth 80 = .ok (.getfield 86, 3) := by decide +kernel
theorem dX2_birth_83 : decode cX2_birth 83 = .ok (.iload_n 1, 1) := by decide +kernel
theorem dX2_birth_84 : decode cX2_birth 84 = .ok (.iconst 1, 1) := by decide +kernel
theorem dX2_birth_85 : decode cX2_birth 85 = .ok (.iadd, 1) := by decide +kernel
theorem dX2_birth_86 : decode cX2_birth 86 = .ok (.iconst 1, 1) := by decide +kernel
theorem dX2_birth_87 : decode cX2_birth 87 = .ok (.invokevirtual 106, 3) := by decide +kernel
theorem dX2_birth_90 : decode cX2_birth 90 = .ok (.iconst 2, 1) := by decide +kernel
theorem dX2_birth_91 : decode cX2_birth 91 = .ok (.ireturn, 1) := by decide +kernel
theorem dX2_day_0 : decode cX2_day 0 = .ok (.aload_n 0, 1) := by decide +kernel
theorem dX2_day_1 : decode cX2_day 1 = .ok (.getfield 22, 3) := by decide +kernel
theorem dX2_day_4 : decode cX2_day 4 = .ok (.ifCond .ne 6, 3) := by decide +kernel
theorem dX2_day_7 : decode cX2_day 7 = .ok (.bipush (-103), 2) := by decide +kernel
theorem dX2_day_9 : decode cX2_day 9 = .ok (.ireturn, 1) := by decide +kernel
theorem dX2_day_10 : decode cX2_day 10 = .ok (.aload_n 0, 1) := by decide +kernel
theorem dX2_day_11 : decode cX2_day 11 = .ok (.getfield 34, 3) := by decide +kernel
theorem dX2_day_14 : decode cX2_day 14 = .ok (.getfield 112, 3) := by decide +kernel
theorem dX2_day_17 : decode cX2_day 17 = .ok (.bipush 30, 2) := by decide +kernel
theorem dX2_day_19 : decode cX2_day 19 = .ok (.if_icmp .lt 6, 3) := by decide +kernel
theorem dX2_day_22 : decode cX2_day 22 = .ok (.bipush (-104), 2) := by decide +kernel
theorem dX2_day_24 : decode cX2_day 24 = .ok (.ireturn, 1) := by decide +kernel
theorem dX2_day_25 : decode cX2_day 25 = .ok (.iconst 0, 1) := by decide +kernel
theorem dX2_day_26 : decode cX2_day 26 = .ok (.istore_n 1, 1) := by decide +kernel
theorem dX2_day_27 : decode cX2_day 27 = .ok (.iload_n 1, 1) := by decide +kernel
theorem dX2_day_28 : decode cX2_day 28 = .ok (.aload_n 0, 1) := by decide +kernel
theorem dX2_day_29 : decode cX2_day 29 = .ok (.getfield 22, 3) := by decide +kernel
theorem dX2_day_32 : decode cX2_day 32 = .ok (.if_icmp .ge 41, 3) := by decide +kernel
theorem dX2_day_35 : decode cX2_day 35 = .ok (.aload_n 0, 1) := by decide +kernel
theorem dX2_day_36 : decode cX2_day 36 = .ok (.getfield 34, 3) := by decide +kernel
theorem dX2_day_39 : decode cX2_day 39 = .ok (.getfield 115, 3) := by decide +kernel
theorem dX2_day_42 : decode cX2_day 42 = .ok (.iload_n 1, 1) := by decide +kernel
theorem dX2_day_43 : decode cX2_day 43 = .ok (.aload_n 0, 1) := by decide +kernel
theorem dX2_day_44 : decode cX2_day 44 = .ok (.getfield 34, 3) := by decide +kernel
theorem dX2_day_47 : decode cX2_day 47 = .ok (.getfield 112, 3) := by decide +kernel
theorem dX2_day_50 : decode cX2_day 50 = .ok (.invokestatic 118, 3) := by decide +kernel
theorem dX2_day_53 : decode cX2_day 53 = .ok (.aload_n 0, 1) := by decide +kernel
theorem dX2_day_54 : decode cX2_day 54 = .ok (.getfield 34, 3) := by decide +kernel
theorem dX2_day_57 : decode cX2_day 57 = .ok (.getfield 76, 3) := by decide +kernel
theorem dX2_day_60 : decode cX2_day 60 = .ok (.iload_n 1, 1) := by decide +kernel
theorem dX2_day_61 : decode cX2_day 61 = .ok (.invokevirtual 58, 3) := by decide +kernel
theorem dX2_day_64 : decode cX2_day 64 = .ok (.invokevirtual 54, 3) := by decide +kernel
theorem dX2_day_67 : decode cX2_day 67 = .ok (.iinc 1 1, 3) := by decide +kernel
theorem dX2_day_70 : decode cX2_day 70 = .ok (.goto (-43), 3) := by decide +kernel
theorem dX2_day_73 : decode cX2_day 73 = .ok (.aload_n 0, 1) := by decide +kernel
theorem dX2_day_74 : decode cX2_day 74 = .ok (.aload_n 0, 1) := by decide +kernel
theorem dX2_day_75 : decode cX2_day 75 = .ok (.getfield 34, 3) := by decide +kernel
theorem dX2_day_78 : decode cX2_day 78 = .ok (.getfield 76, 3) := by decide +kernel
theorem dX2_day_81 : decode cX2_day 81 = .ok (.invokevirtual 122, 3) := by decide +kernel
theorem dX2_day_84 : decode cX2_day 84 = .ok (.aload_n 0, 1) := by decide +kernel
theorem dX2_day_85 : decode cX2_day 85 = .ok (.getfield 34, 3) := by decide +kernel
theorem dX2_day_88 : decode cX2_day 88 = .ok (.dup, 1) := by decide +kernel
theorem dX2_day_89 : decode cX2_day 89 = .ok (.getfield 112, 3) := by decide +kernel
theorem dX2_day_92 : decode cX2_day 92 = .ok (.iconst 1, 1) := by decide +kernel
theorem dX2_day_93 : decode cX2_day 93 = .ok (.iadd, 1) := by decide +kernel
theorem dX2_day_94 : decode cX2_day 94 = .ok (.putfield 112, 3) := by decide +kernel
theorem dX2_day_97 : decode cX2_day 97 = .ok (.aload_n 0, 1) := by decide +kernel
theorem dX2_day_98 : decode cX2_day 98 = .ok (.getfield 34, 3) := by decide +kernel
theorem dX2_day_101 : decode cX2_day 101 = .ok (.getfield 112, 3) := by decide +kernel
theorem dX2_day_104 : decode cX2_day 104 = .ok (.ireturn, 1) := by decide +kernel
theorem dX2_then_0 : decode cX2_then 0 = .ok (.aload_n 0, 1) := by decide +kernel
theorem dX2_then_1 : decode cX2_then 1 = .ok (.iload_n 1, 1) := by decide +kernel
theorem dX2_then_2 : decode cX2_then 2 = .ok (.invokevirtual 79, 3) := by decide +kernel
theorem dX2_then_5 : decode cX2_then 5 = .ok (.ifCond .eq 11, 3) := by decide +kernel
theorem dX2_then_8 : decode cX2_then 8 = .ok (.aload_n 0, 1) := by decide +kernel
theorem dX2_then_9 : decode cX2_then 9 = .ok (.iload_n 2, 1) := by decide +kernel
theorem dX2_then_10 : decode cX2_then 10 = .ok (.invokevirtual 126, 3) := by decide +kernel
theorem dX2_then_13 : decode cX2_then 13 = .ok (.ifCond .ne 6, 3) := by decide +kernel
theorem dX2_then_16 : decode cX2_then 16 = .ok (.bipush (-101), 2) := by decide +kernel
theorem dX2_then_18 : decode cX2_then 18 = .ok (.ireturn, 1) := by decide +kernel
theorem dX2_then_19 : decode cX2_then 19 = .ok (.aload_n 0, 1) := by decide +kernel
theorem dX2_then_20 : decode cX2_then 20 = .ok (.iload_n 1, 1) := by decide +kernel
theorem dX2_then_21 : decode cX2_then 21 = .ok (.iload_n 2, 1) := by decide +kernel
theorem dX2_then_22 : decode cX2_then 22 = .ok (.invokevirtual 129, 3) := by decide +kernel
theorem dX2_then_25 : decode cX2_then 25 = .ok (.ireturn, 1) := by decide +kernel
theorem dX2_goesTo_0 : decode cX2_goesTo 0 = .ok (.aload_n 0, 1) := by decide +kernel
theorem dX2_goesTo_1 : decode cX2_goesTo 1 = .ok (.iload_n 2, 1) := by decide +kernel
theorem dX2_goesTo_2 : decode cX2_goesTo 2 = .ok (.invokevirtual 126, 3) := by decide +kernel
theorem dX2_goesTo_5 : decode cX2_goesTo 5 = .ok (.ifCond .ne 6, 3) := by decide +kernel
theorem dX2_goesTo_8 : decode cX2_goesTo 8 = .ok (.bipush (-101), 2) := by decide +kernel
theorem dX2_goesTo_10 : decode cX2_goesTo 10 = .ok (.ireturn, 1) := by decide +kernel
theorem dX2_goesTo_11 : decode cX2_goesTo 11 = .ok (.aload_n 0, 1) := by decide +kernel
theorem dX2_goesTo_12 : decode cX2_goesTo 12 = .ok (.iload_n 1, 1) := by decide +kernel
theorem dX2_goesTo_13 : decode cX2_goesTo 13 = .ok (.iload_n 2, 1) := by decide +kernel
theorem dX2_goesTo_14 : decode cX2_goesTo 14 = .ok (.invokevirtual 132, 3) := by decide +kernel
theorem dX2_goesTo_17 : decode cX2_goesTo 17 = .ok (.ireturn, 1) := by decide +kernel
theorem dX2_walk_0 : decode cX2_walk 0 = .ok (.aload_n 0, 1) := by decide +kernel
theorem dX2_walk_1 : decode cX2_walk 1 = .ok (.getfield 22, 3) := by decide +kernel
theorem dX2_walk_4 : decode cX2_walk 4 = .ok (.ifCond .ne 6, 3) := by decide +kernel
theorem dX2_walk_7 : decode cX2_walk 7 = .ok (.bipush (-103), 2) := by decide +kernel
theorem dX2_walk_9 : decode cX2_walk 9 = .ok (.ireturn, 1) := by decide +kernel
theorem dX2_walk_10 : decode cX2_walk 10 = .ok (.aload_n 0, 1) := by decide +kernel
theorem dX2_walk_11 : decode cX2_walk 11 = .ok (.aload_n 0, 1) := by decide +kernel
theorem dX2_walk_12 : decode cX2_walk 12 = .ok (.getfield 34, 3) := by decide +kernel
theorem dX2_walk_15 : decode cX2_walk 15 = .ok (.getfield 76, 3) := by decide +kernel
theorem dX2_walk_18 : decode cX2_walk 18 = .ok (.invokevirtual 135, 3) := by decide +kernel
theorem dX2_walk_21 : decode cX2_walk 21 = .ok (.ireturn, 1) := by decide +kernel
theorem dX2_debt_0 : decode cX2_debt 0 = .ok (.iload_n 1, 1) := by decide +kernel
theorem dX2_debt_1 : decode cX2_debt 1 = .ok (.iconst 1, 1) := by decide +kernel
theorem dX2_debt_2 : decode cX2_debt 2 = .ok (.if_icmp .lt 19, 3) := by decide +kernel
theorem dX2_debt_5 : decode cX2_debt 5 = .ok (.iload_n 1, 1) := by decide +kernel
theorem dX2_debt_6 : decode cX2_debt 6 = .ok (.bipush 9, 2) := by decide +kernel
theorem dX2_debt_8 : decode cX2_debt 8 = .ok (.if_icmp .gt 13, 3) := by decide +kernel
theorem dX2_debt_11 : decode cX2_debt 11 = .ok (.iload_n 2, 1) := by decide +kernel
theorem dX2_debt_12 : decode cX2_debt 12 = .ok (.ifCond .lt 9, 3) := by decide +kernel
theorem dX2_debt_15 : decode cX2_debt 15 = .ok (.iload_n 2, 1) := by decide +kernel
theorem dX2_debt_16 : decode cX2_debt 16 = .ok (.bipush 99, 2) := by decide +kernel
theorem dX2_debt_18 : decode cX2_debt 18 = .ok (.if_icmp .le 6, 3) := by decide +kernel
theorem dX2_debt_21 : decode cX2_debt 21 = .ok (.bipush (-102), 2) := by decide +kernel
theorem dX2_debt_23 : decode cX2_debt 23 = .ok (.ireturn, 1) := by decide +kernel
theorem dX2_debt_24 : decode cX2_debt 24 = .ok (.aload_n 0, 1) := by decide +kernel
theorem dX2_debt_25 : decode cX2_debt 25 = .ok (.getfield 22, 3) := by decide +kernel
theorem dX2_debt_28 : decode cX2_debt 28 = .ok (.ifCond .ne 6, 3) := by decide +kernel
theorem dX2_debt_31 : decode cX2_debt 31 = .ok (.bipush (-103), 2) := by decide +kernel
theorem dX2_debt_33 : decode cX2_debt 33 = .ok (.ireturn, 1) := by decide +kernel
theorem dX2_debt_34 : decode cX2_debt 34 = .ok (.aload_n 0, 1) := by decide +kernel
theorem dX2_debt_35 : decode cX2_debt 35 = .ok (.getfield 34, 3) := by decide +kernel
theorem dX2_debt_38 : decode cX2_debt 38 = .ok (.getfield 139, 3) := by decide +kernel
theorem dX2_debt_41 : decode cX2_debt 41 = .ok (.bipush 6, 2) := by decide +kernel
theorem dX2_debt_43 : decode cX2_debt 43 = .ok (.if_icmp .lt 6, 3) := by decide +kernel
theorem dX2_debt_46 : decode cX2_debt 46 = .ok (.bipush (-104), 2) := by decide +kernel
theorem dX2_debt_48 : decode cX2_debt 48 = .ok (.ireturn, 1) := by decide +kernel
theorem dX2_debt_49 : decode cX2_debt 49 = .ok (.aload_n 0, 1) := by decide +kernel
theorem dX2_debt_50 : decode cX2_debt 50 = .ok (.getfield 34, 3) := by decide +kernel
theorem dX2_debt_53 : decode cX2_debt 53 = .ok (.getfield 142, 3) := by decide +kernel
theorem dX2_debt_56 : decode cX2_debt 56 = .ok (.aload_n 0, 1) := by decide +kernel
theorem dX2_debt_57 : decode cX2_debt 57 = .ok (.getfield 34, 3) := by decide +kernel
theorem dX2_debt_60 : decode cX2_debt 60 = .ok (.getfield 139, 3) := by decide +kernel
theorem dX2_debt_63 : decode cX2_debt 63 = .ok (.iload_n 1, 1) := by decide +kernel
theorem dX2_debt_64 : decode cX2_debt 64 = .ok (.invokevirtual 54, 3) := by decide +kernel
theorem dX2_debt_67 : decode cX2_debt 67 = .ok (.aload_n 0, 1) := by decide +kernel
theorem dX2_debt_68 : decode cX2_debt 68 = .ok (.getfield 34, 3) := by decide +kernel
theorem dX2_debt_71 : decode cX2_debt 71 = .ok (.getfield 145, 3) := by decide +kernel
theorem dX2_debt_74 : decode cX2_debt 74 = .ok (.aload_n 0, 1) := by decide +kernel
theorem dX2_debt_75 : decode cX2_debt 75 = .ok (.getfield 34, 3) := by decide +kernel
theorem dX2_debt_78 : decode cX2_debt 78 = .ok (.getfield 139, 3) := by decide +kernel
theorem dX2_debt_81 : decode cX2_debt 81 = .ok (.iload_n 2, 1) := by decide +kernel
theorem dX2_debt_82 : decode cX2_debt 82 = .ok (.invokevirtual 54, 3) := by decide +kernel
theorem dX2_debt_85 : decode cX2_debt 85 = .ok (.aload_n 0, 1) := by decide +kernel
theorem dX2_debt_86 : decode cX2_debt 86 = .ok (.getfield 34, 3) := by decide +kernel
theorem dX2_debt_89 : decode cX2_debt 89 = .ok (.dup, 1) := by decide +kernel
theorem dX2_debt_90 : decode cX2_debt 90 = .ok (.getfield 139, 3) := by decide +kernel
theorem dX2_debt_93 : decode cX2_debt 93 = .ok (.iconst 1, 1) := by decide +kernel
theorem dX2_debt_94 : decode cX2_debt 94 = .ok (.iadd, 1) := by decide +kernel
theorem dX2_debt_95 : decode cX2_debt 95 = .ok (.putfield 139, 3) := by decide +kernel
theorem dX2_debt_98 : decode cX2_debt 98 = .ok (.aload_n 0, 1) := by decide +kernel
theorem dX2_debt_99 : decode cX2_debt 99 = .ok (.getfield 34, 3) := by decide +kernel
theorem dX2_debt_102 : decode cX2_debt 102 = .ok (.getfield 139, 3) := by decide +kernel
theorem dX2_debt_105 : decode cX2_debt 105 = .ok (.ireturn, 1) := by decide +kernel
theorem dX2_pay_0 : decode cX2_pay 0 = .ok (.iconst 0, 1) := by decide +kernel
theorem dX2_pay_1 : decode cX2_pay 1 = .ok (.istore_n 1, 1) := by decide +kernel
theorem dX2_pay_2 : decode cX2_pay 2 = .ok (.iconst 0, 1) := by decide +kernel
theorem dX2_pay_3 : decode cX2_pay 3 = .ok (.istore_n 2, 1) := by decide +kernel
theorem dX2_pay_4 : decode cX2_pay 4 = .ok (.iload_n 2, 1) := by decide +kernel
theorem dX2_pay_5 : decode cX2_pay 5 = .ok (.aload_n 0, 1) := by decide +kernel
theorem dX2_pay_6 : decode cX2_pay 6 = .ok (.getfield 34, 3) := by decide +kernel
theorem dX2_pay_9 : decode cX2_pay 9 = .ok (.getfield 139, 3) := by decide +kernel
theorem dX2_pay_12 : decode cX2_pay 12 = .ok (.if_icmp .ge 23, 3) := by decide +kernel
theorem dX2_pay_15 : decode cX2_pay 15 = .ok (.iload_n 1, 1) := by decide +kernel
theorem dX2_pay_16 : decode cX2_pay 16 = .ok (.aload_n 0, 1) := by decide +kernel
theorem dX2_pay_17 : decode cX2_pay 17 = .ok (.getfield 34, 3) := by decide +kernel
theorem dX2_pay_20 : decode cX2_pay 20 = .ok (.getfield 142, 3) := by decide +kernel
theorem dX2_pay_23 : decode cX2_pay 23 = .ok (.iload_n 2, 1) := by decide +kernel
theorem dX2_pay_24 : decode cX2_pay 24 = .ok (.invokevirtual 58, 3) := by decide +kernel
theorem dX2_pay_27 : decode cX2_pay 27 = .ok (.iadd, 1) := by decide +kernel
theorem dX2_pay_28 : decode cX2_pay 28 = .ok (.istore_n 1, 1) := by decide +kernel
theorem dX2_pay_29 : decode cX2_pay 29 = .ok (.iinc 2 1, 3) := by decide +kernel
theorem dX2_pay_32 : decode cX2_pay 32 = .ok (.goto (-28), 3) := by decide +kernel
theorem dX2_pay_35 : decode cX2_pay 35 = .ok (.aload_n 0, 1) := by decide +kernel
theorem dX2_pay_36 : decode cX2_pay 36 = .ok (.getfield 34, 3) := by decide +kernel
theorem dX2_pay_39 : decode cX2_pay 39 = .ok (.iconst 0, 1) := by decide +kernel
theorem dX2_pay_40 : decode cX2_pay 40 = .ok (.putfield 139, 3) := by decide +kernel
theorem dX2_pay_43 : decode cX2_pay 43 = .ok (.iload_n 1, 1) := by decide +kernel
theorem dX2_pay_44 : decode cX2_pay 44 = .ok (.ireturn, 1) := by decide +kernel
theorem dX2_when_0 : decode cX2_when 0 = .ok (.aload_n 0, 1) := by decide +kernel
theorem dX2_when_1 : decode cX2_when 1 = .ok (.iload_n 1, 1) := by decide +kernel
theorem dX2_when_2 : decode cX2_when 2 = .ok (.invokevirtual 79, 3) := by decide +kernel
theorem dX2_when_5 : decode cX2_when 5 = .ok (.ifCond .ne 6, 3) := by decide +kernel
theorem dX2_when_8 : decode cX2_when 8 = .ok (.bipush (-101), 2) := by decide +kernel
theorem dX2_when_10 : decode cX2_when 10 = .ok (.ireturn, 1) := by decide +kernel
theorem dX2_when_11 : decode cX2_when 11 = .ok (.aload_n 0, 1) := by decide +kernel
theorem dX2_when_12 : decode cX2_when 12 = .ok (.getfield 28, 3) := by decide +kernel
theorem dX2_when_15 : decode cX2_when 15 = .ok (.iload_n 1, 1) := by decide +kernel
theorem dX2_when_16 : decode cX2_when 16 = .ok (.invokevirtual 58, 3) := by decide +kernel
theorem dX2_when_19 : decode cX2_when 19 = .ok (.istore_n 3, 1) := by decide +kernel
theorem dX2_when_20 : decode cX2_when 20 = .ok (.aload_n 0, 1) := by decide +kernel
theorem dX2_when_21 : decode cX2_when 21 = .ok (.getfield 34, 3) := by decide +kernel
theorem dX2_when_24 : decode cX2_when 24 = .ok (.getfield 76, 3) := by decide +kernel
theorem dX2_when_27 : decode cX2_when 27 = .ok (.iload_n 1, 1) := by decide +kernel
theorem dX2_when_28 : decode cX2_when 28 = .ok (.invokevirtual 58, 3) := by decide +kernel
theorem dX2_when_31 : decode cX2_when 31 = .ok (.istore 4, 2) := by decide +kernel
theorem dX2_when_33 : decode cX2_when 33 = .ok (.iconst 0, 1) := by decide +kernel
theorem dX2_when_34 : decode cX2_when 34 = .ok (.istore 5, 2) := by decide +kernel
theorem dX2_when_36 : decode cX2_when 36 = .ok (.iload 5, 2) := by decide +kernel
theorem dX2_when_38 : decode cX2_when 38 = .ok (.bipush 99, 2) := by decide +kernel
theorem dX2_when_40 : decode cX2_when 40 = .ok (.if_icmp .gt 30, 3) := by decide +kernel
theorem dX2_when_43 : decode cX2_when 43 = .ok (.iload_n 3, 1) := by decide +kernel
theorem dX2_when_44 : decode cX2_when 44 = .ok (.iload 4, 2) := by decide +kernel
theorem dX2_when_46 : decode cX2_when 46 = .ok (.invokestatic 156, 3) := by decide +kernel
theorem dX2_when_49 : decode cX2_when 49 = .ok (.iload_n 2, 1) := by decide +kernel
theorem dX2_when_50 : decode cX2_when 50 = .ok (.if_icmp .ne 6, 3) := by decide +kernel
theorem dX2_when_53 : decode cX2_when 53 = .ok (.iload 5, 2) := by decide +kernel
theorem dX2_when_55 : decode cX2_when 55 = .ok (.ireturn, 1) := by decide +kernel
theorem dX2_when_56 : decode cX2_when 56 = .ok (.iload_n 3, 1) := by decide +kernel
theorem dX2_when_57 : decode cX2_when 57 = .ok (.iload 4, 2) := by decide +kernel
theorem dX2_when_59 : decode cX2_when 59 = .ok (.invokestatic 159, 3) := by decide +kernel
theorem dX2_when_62 : decode cX2_when 62 = .ok (.istore 4, 2) := by decide +kernel
theorem dX2_when_64 : decode cX2_when 64 = .ok (.iinc 5 1, 3) := by decide +kernel
theorem dX2_when_67 : decode cX2_when 67 = .ok (.goto (-31), 3) := by decide +kernel
theorem dX2_when_70 : decode cX2_when 70 = .ok (.iconst (-1), 1) := by decide +kernel
theorem dX2_when_71 : decode cX2_when 71 = .ok (.ireturn, 1) := by decide +kernel
theorem dX2_years_0 : decode cX2_years 0 = .ok (.iload_n 1, 1) := by decide +kernel
theorem dX2_years_1 : decode cX2_years 1 = .ok (.iconst 1, 1) := by decide +kernel
theorem dX2_years_2 : decode cX2_years 2 = .ok (.if_icmp .lt 22, 3) := by decide +kernel
theorem dX2_years_5 : decode cX2_years 5 = .ok (.iload_n 1, 1) := by decide +kernel
theorem dX2_years_6 : decode cX2_years 6 = .ok (.bipush 60, 2) := by decide +kernel
theorem dX2_years_8 : decode cX2_years 8 = .ok (.if_icmp .gt 16, 3) := by decide +kernel
theorem dX2_years_11 : decode cX2_years 11 = .ok (.iload_n 2, 1) := by decide +kernel
theorem dX2_years_12 : decode cX2_years 12 = .ok (.ifCond .lt 12, 3) := by decide +kernel
theorem dX2_years_15 : decode cX2_years 15 = .ok (.iload_n 3, 1) := by decide +kernel
theorem dX2_years_16 : decode cX2_years 16 = .ok (.ifCond .lt 8, 3) := by decide +kernel
theorem dX2_years_19 : decode cX2_years 19 = .ok (.iload_n 3, 1) := by decide +kernel
theorem dX2_years_20 : decode cX2_years 20 = .ok (.iconst 2, 1) := by decide +kernel
theorem dX2_years_21 : decode cX2_years 21 = .ok (.if_icmp .le 6, 3) := by decide +kernel
theorem dX2_years_24 : decode cX2_years 24 = .ok (.bipush (-102), 2) := by decide +kernel
theorem dX2_years_26 : decode cX2_years 26 = .ok (.ireturn, 1) := by decide +kernel
theorem dX2_years_27 : decode cX2_years 27 = .ok (.aload_n 0, 1) := by decide +kernel
theorem dX2_years_28 : decode cX2_years 28 = .ok (.getfield 22, 3) := by decide +kernel
theorem dX2_years_31 : decode cX2_years 31 = .ok (.ifCond .ne 6, 3) := by decide +kernel
theorem dX2_years_34 : decode cX2_years 34 = .ok (.bipush (-103), 2) := by decide +kernel
theorem dX2_years_36 : decode cX2_years 36 = .ok (.ireturn, 1) := by decide +kernel
theorem dX2_years_37 : decode cX2_years 37 = .ok (.aload_n 0, 1) := by decide +kernel
theorem dX2_years_38 : decode cX2_years 38 = .ok (.getfield 45, 3) := by decide +kernel
theorem dX2_years_41 : decode cX2_years 41 = .ok (.aload_n 0, 1) := by decide +kernel
theorem dX2_years_42 : decode cX2_years 42 = .ok (.getfield 34, 3) := by decide +kernel
theorem dX2_years_45 : decode cX2_years 45 = .ok (.getfield 76, 3) := by decide +kernel
theorem dX2_years_48 : decode cX2_years 48 = .ok (.invokevirtual 180, 3) := by decide +kernel
theorem dX2_years_51 : decode cX2_years 51 = .ok (.iload_n 2, 1) := by decide +kernel
theorem dX2_years_52 : decode cX2_years 52 = .ok (.istore 4, 2) := by decide +kernel
theorem dX2_years_54 : decode cX2_years 54 = .ok (.iconst 0, 1) := by decide +kernel
theorem dX2_years_55 : decode cX2_years 55 = .ok (.istore 5, 2) := by decide +kernel
theorem dX2_years_57 : decode cX2_years 57 = .ok (.iconst 0, 1) := by decide +kernel
theorem dX2_years_58 : decode cX2_years 58 = .ok (.istore 6, 2) := by decide +kernel
theorem dX2_years_60 : decode cX2_years 60 = .ok (.iload 6, 2) := by decide +kernel
theorem dX2_years_62 : decode cX2_years 62 = .ok (.iload_n 1, 1) := by decide +kernel
theorem dX2_years_63 : decode cX2_years 63 = .ok (.if_icmp .ge 51, 3) := by decide +kernel
theorem dX2_years_66 : decode cX2_years 66 = .ok (.iload 4, 2) := by decide +kernel
theorem dX2_years_68 : decode cX2_years 68 = .ok (.invokestatic 183, 3) := by decide +kernel
theorem dX2_years_71 : decode cX2_years 71 = .ok (.istore 4, 2) := by decide +kernel
theorem dX2_years_73 : decode cX2_years 73 = .ok (.aload_n 0, 1) := by decide +kernel
theorem dX2_years_74 : decode cX2_years 74 = .ok (.aload_n 0, 1) := by decide +kernel
theorem dX2_years_75 : decode cX2_years 75 = .ok (.getfield 45, 3) := by decide +kernel
theorem dX2_years_78 : decode cX2_years 78 = .ok (.aload_n 0, 1) := by decide +kernel
theorem dX2_years_79 : decode cX2_years 79 = .ok (.iload 4, 2) := by decide +kernel
theorem dX2_years_81 : decode cX2_years 81 = .ok (.invokevirtual 186, 3) := by decide +kernel
theorem dX2_years_84 : decode cX2_years 84 = .ok (.invokevirtual 189, 3) := by decide +kernel
theorem dX2_years_87 : decode cX2_years 87 = .ok (.iload 5, 2) := by decide +kernel
theorem dX2_years_89 : decode cX2_years 89 = .ok (.aload_n 0, 1) := by decide +kernel
theorem dX2_years_90 : decode cX2_years 90 = .ok (.aload_n 0, 1) := by decide +kernel
theorem dX2_years_91 : decode cX2_years 91 = .ok (.getfield 45, 3) := by decide +kernel
theorem dX2_years_94 : decode cX2_years 94 = .ok (.invokevirtual 135, 3) := by decide +kernel
theorem dX2_years_97 : decode cX2_years 97 = .ok (.iadd, 1) := by decide +kernel
theorem dX2_years_98 : decode cX2_years 98 = .ok (.istore 5, 2) := by decide +kernel
theorem dX2_years_100 : decode cX2_years 100 = .ok (.aload_n 0, 1) := by decide +kernel
theorem dX2_years_101 : decode cX2_years 101 = .ok (.aload_n 0, 1) := by decide +kernel
theorem dX2_years_102 : decode cX2_years 102 = .ok (.getfield 45, 3) := by decide +kernel
theorem dX2_years_105 : decode cX2_years 105 = .ok (.invokevirtual 122, 3) := by decide +kernel
theorem dX2_years_108 : decode cX2_years 108 = .ok (.iinc 6 1, 3) := by decide +kernel
theorem dX2_years_111 : decode cX2_years 111 = .ok (.goto (-51), 3) := by decide +kernel
theorem dX2_years_114 : decode cX2_years 114 = .ok (.iload_n 3, 1) := by decide +kernel
theorem dX2_years_115 : decode cX2_years 115 = .ok (.ifCond .ne 6, 3) := by decide +kernel
theorem dX2_years_118 : decode cX2_years 118 = .ok (.iload 5, 2) := by decide +kernel
theorem dX2_years_120 : decode cX2_years 120 = .ok (.ireturn, 1) := by decide +kernel
theorem dX2_years_121 : decode cX2_years 121 = .ok (.iload_n 3, 1) := by decide +kernel
theorem dX2_years_122 : decode cX2_years 122 = .ok (.iconst 1, 1) := by decide +kernel
theorem dX2_years_123 : decode cX2_years 123 = .ok (.if_icmp .ne 14, 3) := by decide +kernel
theorem dX2_years_126 : decode cX2_years 126 = .ok (.aload_n 0, 1) := by decide +kernel
theorem dX2_years_127 : decode cX2_years 127 = .ok (.aload_n 0, 1) := by decide +kernel
theorem dX2_years_128 : decode cX2_years 128 = .ok (.getfield 45, 3) := by decide +kernel
theorem dX2_years_131 : decode cX2_years 131 = .ok (.invokevirtual 192, 3) := by decide +kernel
theorem dX2_years_134 : decode cX2_years 134 = .ok (.goto 5, 3) := by decide +kernel
theorem dX2_years_137 : decode cX2_years 137 = .ok (.iload 4, 2) := by decide +kernel
theorem dX2_years_139 : decode cX2_years 139 = .ok (.ireturn, 1) := by decide +kernel
theorem dX2_count_0 : decode cX2_count 0 = .ok (.iload_n 1, 1) := by decide +kernel
theorem dX2_count_1 : decode cX2_count 1 = .ok (.tableswitch 124 0 9 #[55, 60, 68, 76, 88, 93, 101, 106, 114, 119], 55) := by decide +kernel
theorem dX2_count_56 : decode cX2_count 56 = .ok (.aload_n 0, 1) := by decide +kernel
theorem dX2_count_57 : decode cX2_count 57 = .ok (.getfield 22, 3) := by decide +kernel
theorem dX2_count_60 : decode cX2_count 60 = .ok (.ireturn, 1) := by decide +kernel
theorem dX2_count_61 : decode cX2_count 61 = .ok (.aload_n 0, 1) := by decide +kernel
theorem dX2_count_62 : decode cX2_count 62 = .ok (.getfield 34, 3) := by decide +kernel
theorem dX2_count_65 : decode cX2_count 65 = .ok (.getfield 112, 3) := by decide +kernel
theorem dX2_count_68 : decode cX2_count 68 = .ok (.ireturn, 1) := by decide +kernel
theorem dX2_count_69 : decode cX2_count 69 = .ok (.aload_n 0, 1) := by decide +kernel
theorem dX2_count_70 : decode cX2_count 70 = .ok (.getfield 34, 3) := by decide +kernel
theorem dX2_count_73 : decode cX2_count 73 = .ok (.getfield 103, 3) := by decide +kernel
theorem dX2_count_76 : decode cX2_count 76 = .ok (.ireturn, 1) := by decide +kernel
theorem dX2_count_77 : decode cX2_count 77 = .ok (.aload_n 0, 1) := by decide +kernel
theorem dX2_count_78 : decode cX2_count 78 = .ok (.aload_n 0, 1) := by decide +kernel
theorem dX2_count_79 : decode cX2_count 79 = .ok (.getfield 34, 3) := by decide +kernel
theorem dX2_count_82 : decode cX2_count 82 = .ok (.getfield 76, 3) := by decide +kernel
theorem dX2_count_85 : decode cX2_count 85 = .ok (.invokevirtual 192, 3) := by decide +kernel
theorem dX2_count_88 : decode cX2_count 88 = .ok (.ireturn, 1) := by decide +kernel
theorem dX2_count_89 : decode cX2_count 89 = .ok (.aload_n 0, 1) := by decide +kernel
theorem dX2_count_90 : decode cX2_count 90 = .ok (.invokevirtual 198, 3) := by decide +kernel
theorem dX2_count_93 : decode cX2_count 93 = .ok (.ireturn, 1) := by decide +kernel
theorem dX2_count_94 : decode cX2_count 94 = .ok (.aload_n 0, 1) := by decide +kernel
theorem dX2_count_95 : decode cX2_count 95 = .ok (.getfield 34, 3) := by decide +kernel
theorem dX2_count_98 : decode cX2_count 98 = .ok (.getfield 139, 3) := by decide +kernel
theorem dX2_count_101 : decode cX2_count 101 = .ok (.ireturn, 1) := by decide +kernel
theorem dX2_count_102 : decode cX2_count 102 = .ok (.aload_n 0, 1) := by decide +kernel
theorem dX2_count_103 : decode cX2_count 103 = .ok (.invokevirtual 201, 3) := by decide +kernel
theorem dX2_count_106 : decode cX2_count 106 = .ok (.ireturn, 1) := by decide +kernel
theorem dX2_count_107 : decode cX2_count 107 = .ok (.aload_n 0, 1) := by decide +kernel
theorem dX2_count_108 : decode cX2_count 108 = .ok (.getfield 34, 3) := by decide +kernel
theorem dX2_count_111 : decode cX2_count 111 = .ok (.getfield 162, 3) := by decide +kernel
theorem dX2_count_114 : decode cX2_count 114 = .ok (.ireturn, 1) := by decide +kernel
theorem dX2_count_115 : decode cX2_count 115 = .ok (.aload_n 0, 1) := by decide +kernel
theorem dX2_count_116 : decode cX2_count 116 = .ok (.getfield 18, 3) := by decide +kernel
theorem dX2_count_119 : decode cX2_count 119 = .ok (.ireturn, 1) := by decide +kernel
theorem dX2_count_120 : decode cX2_count 120 = .ok (.aload_n 0, 1) := by decide +kernel
theorem dX2_count_121 : decode cX2_count 121 = .ok (.getfield 25, 3) := by decide +kernel
theorem dX2_count_124 : decode cX2_count 124 = .ok (.ireturn, 1) := by decide +kernel
theorem dX2_count_125 : decode cX2_count 125 = .ok (.bipush (-102), 2) := by decide +kernel
theorem dX2_count_127 : decode cX2_count 127 = .ok (.ireturn, 1) := by decide +kernel
theorem dX2_canStandAt_0 : decode cX2_canStandAt 0 = .ok (.iload_n 0, 1) := by decide +kernel
theorem dX2_canStandAt_1 : decode cX2_canStandAt 1 = .ok (.bipush 17, 2) := by decide +kernel
theorem dX2_canStandAt_3 : decode cX2_canStandAt 3 = .ok (.if_icmp .lt 5, 3) := by decide +kernel
theorem dX2_canStandAt_6 : decode cX2_canStandAt 6 = .ok (.iconst 0, 1) := by decide +kernel
theorem dX2_canStandAt_7 : decode cX2_canStandAt 7 = .ok (.ireturn, 1) := by decide +kernel
theorem dX2_canStandAt_8 : decode cX2_canStandAt 8 = .ok (.iload_n 0, 1) := by decide +kernel
theorem dX2_canStandAt_9 : decode cX2_canStandAt 9 = .ok (.iconst 3, 1) := by decide +kernel
theorem dX2_canStandAt_10 : decode cX2_canStandAt 10 = .ok (.irem, 1) := by decide +kernel
theorem dX2_canStandAt_11 : decode cX2_canStandAt 11 = .ok (.lookupswitch 57 #[(0, 25), (1, 39)], 25) := by decide +kernel
theorem dX2_canStandAt_36 : decode cX2_canStandAt 36 = .ok (.iload_n 1, 1) := by decide +kernel
theorem dX2_canStandAt_37 : decode cX2_canStandAt 37 = .ok (.invokestatic 73, 3) := by decide +kernel
theorem dX2_canStandAt_40 : decode cX2_canStandAt 40 = .ok (.iconst (-1), 1) := by decide +kernel
theorem dX2_canStandAt_41 : decode cX2_canStandAt 41 = .ok (.if_icmp .eq 7, 3) := by decide +kernel
theorem dX2_canStandAt_44 : decode cX2_canStandAt 44 = .ok (.iconst 1, 1) := by decide +kernel
theorem dX2_canStandAt_45 : decode cX2_canStandAt 45 = .ok (.goto 4, 3) := by decide +kernel
theorem dX2_canStandAt_48 : decode cX2_canStandAt 48 = .ok (.iconst 0, 1) := by decide +kernel
theorem dX2_canStandAt_49 : decode cX2_canStandAt 49 = .ok (.ireturn, 1) := by decide +kernel
theorem dX2_canStandAt_50 : decode cX2_canStandAt 50 = .ok (.iload_n 1, 1) := by decide +kernel
theorem dX2_canStandAt_51 : decode cX2_canStandAt 51 = .ok (.bipush 48, 2) := by decide +kernel
theorem dX2_canStandAt_53 : decode cX2_canStandAt 53 = .ok (.if_icmp .lt 13, 3) := by decide +kernel
theorem dX2_canStandAt_56 : decode cX2_canStandAt 56 = .ok (.iload_n 1, 1) := by decide +kernel
theorem dX2_canStandAt_57 : decode cX2_canStandAt 57 = .ok (.bipush 57, 2) := by decide +kernel
theorem dX2_canStandAt_59 : decode cX2_canStandAt 59 = .ok (.if_icmp .gt 7, 3) := by decide +kernel
theorem dX2_canStandAt_62 : decode cX2_canStandAt 62 = .ok (.iconst 1, 1) := by decide +kernel
theorem dX2_canStandAt_63 : decode cX2_canStandAt 63 = .ok (.goto 4, 3) := by decide +kernel
theorem dX2_canStandAt_66 : decode cX2_canStandAt 66 = .ok (.iconst 0, 1) := by decide +kernel
theorem dX2_canStandAt_67 : decode cX2_canStandAt 67 = .ok (.ireturn, 1) := by decide +kernel
theorem dX2_canStandAt_68 : decode cX2_canStandAt 68 = .ok (.iload_n 1, 1) := by decide +kernel
theorem dX2_canStandAt_69 : decode cX2_canStandAt 69 = .ok (.bipush 44, 2) := by decide +kernel
theorem dX2_canStandAt_71 : decode cX2_canStandAt 71 = .ok (.if_icmp .ne 7, 3) := by decide +kernel
theorem dX2_canStandAt_74 : decode cX2_canStandAt 74 = .ok (.iconst 1, 1) := by decide +kernel
theorem dX2_canStandAt_75 : decode cX2_canStandAt 75 = .ok (.goto 4, 3) := by decide +kernel
theorem dX2_canStandAt_78 : decode cX2_canStandAt 78 = .ok (.iconst 0, 1) := by decide +kernel
theorem dX2_canStandAt_79 : decode cX2_canStandAt 79 = .ok (.ireturn, 1) := by decide +kernel
theorem dX2_kindOfLetter_0 : decode cX2_kindOfLetter 0 = .ok (.iconst 0, 1) := by decide +kernel
theorem dX2_kindOfLetter_1 : decode cX2_kindOfLetter 1 = .ok (.istore_n 1, 1) := by decide +kernel
theorem dX2_kindOfLetter_2 : decode cX2_kindOfLetter 2 = .ok (.iload_n 1, 1) := by decide +kernel
theorem dX2_kindOfLetter_3 : decode cX2_kindOfLetter 3 = .ok (.ldc 233, 2) := by decide +kernel
theorem dX2_kindOfLetter_5 : decode cX2_kindOfLetter 5 = .ok (.invokevirtual 235, 3) := by decide +kernel
theorem dX2_kindOfLetter_8 : decode cX2_kindOfLetter 8 = .ok (.if_icmp .ge 21, 3) := by decide +kernel
theorem dX2_kindOfLetter_11 : decode cX2_kindOfLetter 11 = .ok (.ldc 233, 2) := by decide +kernel
theorem dX2_kindOfLetter_13 : decode cX2_kindOfLetter 13 = .ok (.iload_n 1, 1) := by decide +kernel
theorem dX2_kindOfLetter_14 : decode cX2_kindOfLetter 14 = .ok (.invokevirtual 240, 3) := by decide +kernel
theorem dX2_kindOfLetter_17 : decode cX2_kindOfLetter 17 = .ok (.iload_n 0, 1) := by decide +kernel
theorem dX2_kindOfLetter_18 : decode cX2_kindOfLetter 18 = .ok (.if_icmp .ne 5, 3) := by decide +kernel
theorem dX2_kindOfLetter_21 : decode cX2_kindOfLetter 21 = .ok (.iload_n 1, 1) := by decide +kernel
theorem dX2_kindOfLetter_22 : decode cX2_kindOfLetter 22 = .ok (.ireturn, 1) := by decide +kernel
theorem dX2_kindOfLetter_23 : decode cX2_kindOfLetter 23 = .ok (.iinc 1 1, 3) := by decide +kernel
theorem dX2_kindOfLetter_26 : decode cX2_kindOfLetter 26 = .ok (.goto (-24), 3) := by decide +kernel
theorem dX2_kindOfLetter_29 : decode cX2_kindOfLetter 29 = .ok (.iconst (-1), 1) := by decide +kernel
theorem dX2_kindOfLetter_30 : decode cX2_kindOfLetter 30 = .ok (.ireturn, 1) := by decide +kernel
theorem dX2_housesOnPage_0 : decode cX2_housesOnPage 0 = .ok (.aload_n 0, 1) := by decide +kernel
theorem dX2_housesOnPage_1 : decode cX2_housesOnPage 1 = .ok (.getfield 18, 3) := by decide +kernel
theorem dX2_housesOnPage_4 : decode cX2_housesOnPage 4 = .ok (.iconst 3, 1) := by decide +kernel
theorem dX2_housesOnPage_5 : decode cX2_housesOnPage 5 = .ok (.irem, 1) := by decide +kernel
theorem dX2_housesOnPage_6 : decode cX2_housesOnPage 6 = .ok (.iconst 2, 1) := by decide +kernel
theorem dX2_housesOnPage_7 : decode cX2_housesOnPage 7 = .ok (.if_icmp .ne 7, 3) := by decide +kernel
theorem dX2_housesOnPage_10 : decode cX2_housesOnPage 10 = .ok (.iconst 1, 1) := by decide +kernel
theorem dX2_housesOnPage_11 : decode cX2_housesOnPage 11 = .ok (.goto 4, 3) := by decide +kernel
theorem dX2_housesOnPage_14 : decode cX2_housesOnPage 14 = .ok (.iconst 0, 1) := by decide +kernel
theorem dX2_housesOnPage_15 : decode cX2_housesOnPage 15 = .ok (.istore_n 1, 1) := by decide +kernel
theorem dX2_housesOnPage_16 : decode cX2_housesOnPage 16 = .ok (.iload_n 1, 1) := by decide +kernel
theorem dX2_housesOnPage_17 : decode cX2_housesOnPage 17 = .ok (.ifCond .eq 14, 3) := by decide +kernel
theorem dX2_housesOnPage_20 : decode cX2_housesOnPage 20 = .ok (.aload_n 0, 1) := by decide +kernel
theorem dX2_housesOnPage_21 : decode cX2_housesOnPage 21 = .ok (.invokevirtual 244, 3) := by decide +kernel
theorem dX2_housesOnPage_24 : decode cX2_housesOnPage 24 = .ok (.aload_n 0, 1) := by decide +kernel
theorem dX2_housesOnPage_25 : decode cX2_housesOnPage 25 = .ok (.getfield 18, 3) := by decide +kernel
theorem dX2_housesOnPage_28 : decode cX2_housesOnPage 28 = .ok (.if_icmp .eq 5, 3) := by decide +kernel
theorem dX2_housesOnPage_31 : decode cX2_housesOnPage 31 = .ok (.iconst 0, 1) := by decide +kernel
theorem dX2_housesOnPage_32 : decode cX2_housesOnPage 32 = .ok (.ireturn, 1) := by decide +kernel
theorem dX2_housesOnPage_33 : decode cX2_housesOnPage 33 = .ok (.aload_n 0, 1) := by decide +kernel
theorem dX2_housesOnPage_34 : decode cX2_housesOnPage 34 = .ok (.getfield 18, 3) := by decide +kernel
theorem dX2_housesOnPage_37 : decode cX2_housesOnPage 37 = .ok (.iconst 1, 1) := by decide +kernel
theorem dX2_housesOnPage_38 : decode cX2_housesOnPage 38 = .ok (.iadd, 1) := by decide +kernel
theorem dX2_housesOnPage_39 : decode cX2_housesOnPage 39 = .ok (.iconst 3, 1) := by decide +kernel
theorem dX2_housesOnPage_40 : decode cX2_housesOnPage 40 = .ok (.idiv, 1) := by decide +kernel
theorem dX2_housesOnPage_41 : decode cX2_housesOnPage 41 = .ok (.ireturn, 1) := by decide +kernel
theorem dX2_isA_0 : decode cX2_isA 0 = .ok (.iload_n 1, 1) := by decide +kernel
theorem dX2_isA_1 : decode cX2_isA 1 = .ok (.ifCond .eq 18, 3) := by decide +kernel
theorem dX2_isA_4 : decode cX2_isA 4 = .ok (.iload_n 1, 1) := by decide +kernel
theorem dX2_isA_5 : decode cX2_isA 5 = .ok (.iload_n 0, 1) := by decide +kernel
theorem dX2_isA_6 : decode cX2_isA 6 = .ok (.if_icmp .eq 13, 3) := by decide +kernel
theorem dX2_isA_9 : decode cX2_isA 9 = .ok (.iload_n 1, 1) := by decide +kernel
theorem dX2_isA_10 : decode cX2_isA 10 = .ok (.iconst 2, 1) := by decide +kernel
theorem dX2_isA_11 : decode cX2_isA 11 = .ok (.if_icmp .ne 12, 3) := by decide +kernel
theorem dX2_isA_14 : decode cX2_isA 14 = .ok (.iload_n 0, 1) := by decide +kernel
theorem dX2_isA_15 : decode cX2_isA 15 = .ok (.iconst 4, 1) := by decide +kernel
theorem dX2_isA_16 : decode cX2_isA 16 = .ok (.if_icmp .ne 7, 3) := by decide +kernel
theorem dX2_isA_19 : decode cX2_isA 19 = .ok (.iconst 1, 1) := by decide +kernel
theorem dX2_isA_20 : decode cX2_isA 20 = .ok (.goto 4, 3) := by decide +kernel
theorem dX2_isA_23 : decode cX2_isA 23 = .ok (.iconst 0, 1) := by decide +kernel
theorem dX2_isA_24 : decode cX2_isA 24 = .ok (.ireturn, 1) := by decide +kernel
theorem dX2_numberOf_0 : decode cX2_numberOf 0 = .ok (.iload_n 0, 1) := by decide +kernel
theorem dX2_numberOf_1 : decode cX2_numberOf 1 = .ok (.iconst 1, 1) := by decide +kernel
theorem dX2_numberOf_2 : decode cX2_numberOf 2 = .ok (.if_icmp .ne 9, 3) := by decide +kernel
theorem dX2_numberOf_5 : decode cX2_numberOf 5 = .ok (.iload_n 1, 1) := by decide +kernel
theorem dX2_numberOf_6 : decode cX2_numberOf 6 = .ok (.iconst 2, 1) := by decide +kernel
theorem dX2_numberOf_7 : decode cX2_numberOf 7 = .ok (.idiv, 1) := by decide +kernel
theorem dX2_numberOf_8 : decode cX2_numberOf 8 = .ok (.goto 4, 3) := by decide +kernel
theorem dX2_numberOf_11 : decode cX2_numberOf 11 = .ok (.iload_n 1, 1) := by decide +kernel
theorem dX2_numberOf_12 : decode cX2_numberOf 12 = .ok (.ireturn, 1) := by decide +kernel
theorem dX2_ageNextDay_0 : decode cX2_ageNextDay 0 = .ok (.iload_n 0, 1) := by decide +kernel
theorem dX2_ageNextDay_1 : decode cX2_ageNextDay 1 = .ok (.iconst 4, 1) := by decide +kernel
theorem dX2_ageNextDay_2 : decode cX2_ageNextDay 2 = .ok (.if_icmp .ne 7, 3) := by decide +kernel
theorem dX2_ageNextDay_5 : decode cX2_ageNextDay 5 = .ok (.iload_n 1, 1) := by decide +kernel
theorem dX2_ageNextDay_6 : decode cX2_ageNextDay 6 = .ok (.goto 6, 3) := by decide +kernel
theorem dX2_ageNextDay_9 : decode cX2_ageNextDay 9 = .ok (.iload_n 1, 1) := by decide +kernel
theorem dX2_ageNextDay_10 : decode cX2_ageNextDay 10 = .ok (.iconst 1, 1) := by decide +kernel
theorem dX2_ageNextDay_11 : decode cX2_ageNextDay 11 = .ok (.iadd, 1) := by decide +kernel
theorem dX2_ageNextDay_12 : decode cX2_ageNextDay 12 = .ok (.ireturn, 1) := by decide +kernel
theorem dX2_isHouse_0 : decode cX2_isHouse 0 = .ok (.iload_n 1, 1) := by decide +kernel
theorem dX2_isHouse_1 : decode cX2_isHouse 1 = .ok (.ifCond .lt 15, 3) := by decide +kernel
theorem dX2_isHouse_4 : decode cX2_isHouse 4 = .ok (.iload_n 1, 1) := by decide +kernel
theorem dX2_isHouse_5 : decode cX2_isHouse 5 = .ok (.aload_n 0, 1) := by decide +kernel
theorem dX2_isHouse_6 : decode cX2_isHouse 6 = .ok (.getfield 22, 3) := by decide +kernel
theorem dX2_isHouse_9 : decode cX2_isHouse 9 = .ok (.if_icmp .ge 7, 3) := by decide +kernel
theorem dX2_isHouse_12 : decode cX2_isHouse 12 = .ok (.iconst 1, 1) := by decide +kernel
theorem dX2_isHouse_13 : decode cX2_isHouse 13 = .ok (.goto 4, 3) := by decide +kernel
theorem dX2_isHouse_16 : decode cX2_isHouse 16 = .ok (.iconst 0, 1) := by decide +kernel
theorem dX2_isHouse_17 : decode cX2_isHouse 17 = .ok (.ireturn, 1) := by decide +kernel
theorem dX2_lendsACradle_0 : decode cX2_lendsACradle 0 = .ok (.aload_n 0, 1) := by decide +kernel
theorem dX2_lendsACradle_1 : decode cX2_lendsACradle 1 = .ok (.iload_n 1, 1) := by decide +kernel
theorem dX2_lendsACradle_2 : decode cX2_lendsACradle 2 = .ok (.iconst 1, 1) := by decide +kernel
theorem dX2_lendsACradle_3 : decode cX2_lendsACradle 3 = .ok (.iadd, 1) := by decide +kernel
theorem dX2_lendsACradle_4 : decode cX2_lendsACradle 4 = .ok (.invokevirtual 79, 3) := by decide +kernel
theorem dX2_lendsACradle_7 : decode cX2_lendsACradle 7 = .ok (.ifCond .eq 24, 3) := by decide +kernel
theorem dX2_lendsACradle_10 : decode cX2_lendsACradle 10 = .ok (.aload_n 0, 1) := by decide +kernel
theorem dX2_lendsACradle_11 : decode cX2_lendsACradle 11 = .ok (.getfield 28, 3) := by decide +kernel
theorem dX2_lendsACradle_14 : decode cX2_lendsACradle 14 = .ok (.iload_n 1, 1) := by decide +kernel
theorem dX2_lendsACradle_15 : decode cX2_lendsACradle 15 = .ok (.iconst 1, 1) := by decide +kernel
theorem dX2_lendsACradle_16 : decode cX2_lendsACradle 16 = .ok (.iadd, 1) := by decide +kernel
theorem dX2_lendsACradle_17 : decode cX2_lendsACradle 17 = .ok (.invokevirtual 58, 3) := by decide +kernel
theorem dX2_lendsACradle_20 : decode cX2_lendsACradle 20 = .ok (.iconst 3, 1) := by decide +kernel
theorem dX2_lendsACradle_21 : decode cX2_lendsACradle 21 = .ok (.invokestatic 96, 3) := by decide +kernel
theorem dX2_lendsACradle_24 : decode cX2_lendsACradle 24 = .ok (.ifCond .eq 7, 3) := by decide +kernel
theorem dX2_lendsACradle_27 : decode cX2_lendsACradle 27 = .ok (.iconst 1, 1) := by decide +kernel
theorem dX2_lendsACradle_28 : decode cX2_lendsACradle 28 = .ok (.goto 4, 3) := by decide +kernel
theorem dX2_lendsACradle_31 : decode cX2_lendsACradle 31 = .ok (.iconst 0, 1) := by decide +kernel
theorem dX2_lendsACradle_32 : decode cX2_lendsACradle 32 = .ok (.ireturn, 1) := by decide +kernel
theorem dX2_bear_0 : decode cX2_bear 0 = .ok (.aload_n 1, 1) := by decide +kernel
theorem dX2_bear_1 : decode cX2_bear 1 = .ok (.iload_n 2, 1) := by decide +kernel
theorem dX2_bear_2 : decode cX2_bear 2 = .ok (.iconst 0, 1) := by decide +kernel
theorem dX2_bear_3 : decode cX2_bear 3 = .ok (.invokevirtual 54, 3) := by decide +kernel
theorem dX2_bear_6 : decode cX2_bear 6 = .ok (.aload_n 0, 1) := by decide +kernel
theorem dX2_bear_7 : decode cX2_bear 7 = .ok (.iload_n 2, 1) := by decide +kernel
theorem dX2_bear_8 : decode cX2_bear 8 = .ok (.invokevirtual 109, 3) := by decide +kernel
theorem dX2_bear_11 : decode cX2_bear 11 = .ok (.ifCond .eq 11, 3) := by decide +kernel
theorem dX2_bear_14 : decode cX2_bear 14 = .ok (.aload_n 1, 1) := by decide +kernel
theorem dX2_bear_15 : decode cX2_bear 15 = .ok (.iload_n 2, 1) := by decide +kernel
theorem dX2_bear_16 : decode cX2_bear 16 = .ok (.iconst 1, 1) := by decide +kernel
theorem dX2_bear_17 : decode cX2_bear 17 = .ok (.iadd, 1) := by decide +kernel
theorem dX2_bear_18 : decode cX2_bear 18 = .ok (.iconst 0, 1) := by decide +kernel
theorem dX2_bear_19 : decode cX2_bear 19 = .ok (.invokevirtual 54, 3) := by decide +kernel
theorem dX2_bear_22 : decode cX2_bear 22 = .ok (.return_, 1) := by decide +kernel
theorem dX2_bearIfMayBe_0 : decode cX2_bearIfMayBe 0 = .ok (.aload_n 0, 1) := by decide +kernel
theorem dX2_bearIfMayBe_1 : decode cX2_bearIfMayBe 1 = .ok (.getfield 28, 3) := by decide +kernel
theorem dX2_bearIfMayBe_4 : decode cX2_bearIfMayBe 4 = .ok (.iload_n 2, 1) := by decide +kernel
theorem dX2_bearIfMayBe_5 : decode cX2_bearIfMayBe 5 = .ok (.invokevirtual 58, 3) := by decide +kernel
theorem dX2_bearIfMayBe_8 : decode cX2_bearIfMayBe 8 = .ok (.iconst 2, 1) := by decide +kernel
theorem dX2_bearIfMayBe_9 : decode cX2_bearIfMayBe 9 = .ok (.invokestatic 96, 3) := by decide +kernel
theorem dX2_bearIfMayBe_12 : decode cX2_bearIfMayBe 12 = .ok (.ifCond .ne 9, 3) := by decide +kernel
theorem dX2_bearIfMayBe_15 : decode cX2_bearIfMayBe 15 = .ok (.aload_n 0, 1) := by decide +kernel
theorem dX2_bearIfMayBe_16 : decode cX2_bearIfMayBe 16 = .ok (.aload_n 1, 1) := by decide +kernel
theorem dX2_bearIfMayBe_17 : decode cX2_bearIfMayBe 17 = .ok (.iload_n 2, 1) := by decide +kernel
theorem dX2_bearIfMayBe_18 : decode cX2_bearIfMayBe 18 = .ok (.invokevirtual 99, 3) := by decide +kernel
theorem dX2_bearIfMayBe_21 : decode cX2_bearIfMayBe 21 = .ok (.return_, 1) := by decide +kernel
theorem dX2_growOlder_0 : decode cX2_growOlder 0 = .ok (.iconst 0, 1) := by decide +kernel
theorem dX2_growOlder_1 : decode cX2_growOlder 1 = .ok (.istore_n 2, 1) := by decide +kernel
theorem dX2_growOlder_2 : decode cX2_growOlder 2 = .ok (.iload_n 2, 1) := by decide +kernel
theorem dX2_growOlder_3 : decode cX2_growOlder 3 = .ok (.aload_n 0, 1) := by decide +kernel
theorem dX2_growOlder_4 : decode cX2_growOlder 4 = .ok (.getfield 22, 3) := by decide +kernel
theorem dX2_growOlder_7 : decode cX2_growOlder 7 = .ok (.if_icmp .ge 30, 3) := by decide +kernel
theorem dX2_growOlder_10 : decode cX2_growOlder 10 = .ok (.aload_n 1, 1) := by decide +kernel
theorem dX2_growOlder_11 : decode cX2_growOlder 11 = .ok (.iload_n 2, 1) := by decide +kernel
theorem dX2_growOlder_12 : decode cX2_growOlder 12 = .ok (.aload_n 0, 1) := by decide +kernel
theorem dX2_growOlder_13 : decode cX2_growOlder 13 = .ok (.getfield 28, 3) := by decide +kernel
theorem dX2_growOlder_16 : decode cX2_growOlder 16 = .ok (.iload_n 2, 1) := by decide +kernel
theorem dX2_growOlder_17 : decode cX2_growOlder 17 = .ok (.invokevirtual 58, 3) := by decide +kernel
theorem dX2_growOlder_20 : decode cX2_growOlder 20 = .ok (.aload_n 1, 1) := by decide +kernel
theorem dX2_growOlder_21 : decode cX2_growOlder 21 = .ok (.iload_n 2, 1) := by decide +kernel
theorem dX2_growOlder_22 : decode cX2_growOlder 22 = .ok (.invokevirtual 58, 3) := by decide +kernel
theorem dX2_growOlder_25 : decode cX2_growOlder 25 = .ok (.invokestatic 159, 3) := by decide +kernel
theorem dX2_growOlder_28 : decode cX2_growOlder 28 = .ok (.invokevirtual 54, 3) := by decide +kernel
theorem dX2_growOlder_31 : decode cX2_growOlder 31 = .ok (.iinc 2 1, 3) := by decide +kernel
theorem dX2_growOlder_34 : decode cX2_growOlder 34 = .ok (.goto (-32), 3) := by decide +kernel
theorem dX2_growOlder_37 : decode cX2_growOlder 37 = .ok (.return_, 1) := by decide +kernel
theorem dX2_numberAt_0 : decode cX2_numberAt 0 = .ok (.aload_n 0, 1) := by decide +kernel
theorem dX2_numberAt_1 : decode cX2_numberAt 1 = .ok (.getfield 28, 3) := by decide +kernel
theorem dX2_numberAt_4 : decode cX2_numberAt 4 = .ok (.iload_n 2, 1) := by decide +kernel
theorem dX2_numberAt_5 : decode cX2_numberAt 5 = .ok (.invokevirtual 58, 3) := by decide +kernel
theorem dX2_numberAt_8 : decode cX2_numberAt 8 = .ok (.aload_n 1, 1) := by decide +kernel
theorem dX2_numberAt_9 : decode cX2_numberAt 9 = .ok (.iload_n 2, 1) := by decide +kernel
theorem dX2_numberAt_10 : decode cX2_numberAt 10 = .ok (.invokevirtual 58, 3) := by decide +kernel
theorem dX2_numberAt_13 : decode cX2_numberAt 13 = .ok (.invokestatic 156, 3) := by decide +kernel
theorem dX2_numberAt_16 : decode cX2_numberAt 16 = .ok (.ireturn, 1) := by decide +kernel
theorem dX2_allNumbers_0 : decode cX2_allNumbers 0 = .ok (.iconst 0, 1) := by decide +kernel
theorem dX2_allNumbers_1 : decode cX2_allNumbers 1 = .ok (.istore_n 2, 1) := by decide +kernel
theorem dX2_allNumbers_2 : decode cX2_allNumbers 2 = .ok (.iconst 0, 1) := by decide +kernel
theorem dX2_allNumbers_3 : decode cX2_allNumbers 3 = .ok (.istore_n 3, 1) := by decide +kernel
theorem dX2_allNumbers_4 : decode cX2_allNumbers 4 = .ok (.iload_n 3, 1) := by decide +kernel
theorem dX2_allNumbers_5 : decode cX2_allNumbers 5 = .ok (.aload_n 0, 1) := by decide +kernel
theorem dX2_allNumbers_6 : decode cX2_allNumbers 6 = .ok (.getfield 22, 3) := by decide +kernel
theorem dX2_allNumbers_9 : decode cX2_allNumbers 9 = .ok (.if_icmp .ge 18, 3) := by decide +kernel
theorem dX2_allNumbers_12 : decode cX2_allNumbers 12 = .ok (.iload_n 2, 1) := by decide +kernel
theorem dX2_allNumbers_13 : decode cX2_allNumbers 13 = .ok (.aload_n 0, 1) := by decide +kernel
theorem dX2_allNumbers_14 : decode cX2_allNumbers 14 = .ok (.aload_n 1, 1) := by decide +kernel
theorem dX2_allNumbers_15 : decode cX2_allNumbers 15 = .ok (.iload_n 3, 1) := by decide +kernel
theorem dX2_allNumbers_16 : decode cX2_allNumbers 16 = .ok (.invokevirtual 247, 3) := by decide +kernel
theorem dX2_allNumbers_19 : decode cX2_allNumbers 19 = .ok (.iadd, 1) := by decide +kernel
theorem dX2_allNumbers_20 : decode cX2_allNumbers 20 = .ok (.istore_n 2, 1) := by decide +kernel
theorem dX2_allNumbers_21 : decode cX2_allNumbers 21 = .ok (.iinc 3 1, 3) := by decide +kernel
theorem dX2_allNumbers_24 : decode cX2_allNumbers 24 = .ok (.goto (-20), 3) := by decide +kernel
theorem dX2_allNumbers_27 : decode cX2_allNumbers 27 = .ok (.iload_n 2, 1) := by decide +kernel
theorem dX2_allNumbers_28 : decode cX2_allNumbers 28 = .ok (.ireturn, 1) := by decide +kernel
theorem dX2_turnInWalk_0 : decode cX2_turnInWalk 0 = .ok (.aload_n 0, 1) := by decide +kernel
theorem dX2_turnInWalk_1 : decode cX2_turnInWalk 1 = .ok (.aload_n 1, 1) := by decide +kernel
theorem dX2_turnInWalk_2 : decode cX2_turnInWalk 2 = .ok (.iload_n 2, 1) := by decide +kernel
theorem dX2_turnInWalk_3 : decode cX2_turnInWalk 3 = .ok (.invokevirtual 247, 3) := by decide +kernel
theorem dX2_turnInWalk_6 : decode cX2_turnInWalk 6 = .ok (.istore_n 3, 1) := by decide +kernel
theorem dX2_turnInWalk_7 : decode cX2_turnInWalk 7 = .ok (.iconst 0, 1) := by decide +kernel
theorem dX2_turnInWalk_8 : decode cX2_turnInWalk 8 = .ok (.istore 4, 2) := by decide +kernel
theorem dX2_turnInWalk_10 : decode cX2_turnInWalk 10 = .ok (.iconst 0, 1) := by decide +kernel
theorem dX2_turnInWalk_11 : decode cX2_turnInWalk 11 = .ok (.istore 5, 2) := by decide +kernel
theorem dX2_turnInWalk_13 : decode cX2_turnInWalk 13 = .ok (.iload 5, 2) := by decide +kernel
theorem dX2_turnInWalk_15 : decode cX2_turnInWalk 15 = .ok (.aload_n 0, 1) := by decide +kernel
theorem dX2_turnInWalk_16 : decode cX2_turnInWalk 16 = .ok (.getfield 22, 3) := by decide +kernel
theorem dX2_turnInWalk_19 : decode cX2_turnInWalk 19 = .ok (.if_icmp .ge 39, 3) := by decide +kernel
theorem dX2_turnInWalk_22 : decode cX2_turnInWalk 22 = .ok (.aload_n 0, 1) := by decide +kernel
theorem dX2_turnInWalk_23 : decode cX2_turnInWalk 23 = .ok (.aload_n 1, 1) := by decide +kernel
theorem dX2_turnInWalk_24 : decode cX2_turnInWalk 24 = .ok (.iload 5, 2) := by decide +kernel
theorem dX2_turnInWalk_26 : decode cX2_turnInWalk 26 = .ok (.invokevirtual 247, 3) := by decide +kernel
theorem dX2_turnInWalk_29 : decode cX2_turnInWalk 29 = .ok (.istore 6, 2) := by decide +kernel
theorem dX2_turnInWalk_31 : decode cX2_turnInWalk 31 = .ok (.iload 6, 2) := by decide +kernel
theorem dX2_turnInWalk_33 : decode cX2_turnInWalk 33 = .ok (.iload_n 3, 1) := by decide +kernel
theorem dX2_turnInWalk_34 : decode cX2_turnInWalk 34 = .ok (.if_icmp .lt 15, 3) := by decide +kernel
theorem dX2_turnInWalk_37 : decode cX2_turnInWalk 37 = .ok (.iload 6, 2) := by decide +kernel
theorem dX2_turnInWalk_39 : decode cX2_turnInWalk 39 = .ok (.iload_n 3, 1) := by decide +kernel
theorem dX2_turnInWalk_40 : decode cX2_turnInWalk 40 = .ok (.if_icmp .ne 12, 3) := by decide +kernel
theorem dX2_turnInWalk_43 : decode cX2_turnInWalk 43 = .ok (.iload 5, 2) := by decide +kernel
theorem dX2_turnInWalk_45 : decode cX2_turnInWalk 45 = .ok (.iload_n 2, 1) := by decide +kernel
theorem dX2_turnInWalk_46 : decode cX2_turnInWalk 46 = .ok (.if_icmp .ge 6, 3) := by decide +kernel
theorem dX2_turnInWalk_49 : decode cX2_turnInWalk 49 = .ok (.iinc 4 1, 3) := by decide +kernel
theorem dX2_turnInWalk_52 : decode cX2_turnInWalk 52 = .ok (.iinc 5 1, 3) := by decide +kernel
theorem dX2_turnInWalk_55 : decode cX2_turnInWalk 55 = .ok (.goto (-42), 3) := by decide +kernel
theorem dX2_turnInWalk_58 : decode cX2_turnInWalk 58 = .ok (.iload 4, 2) := by decide +kernel
theorem dX2_turnInWalk_60 : decode cX2_turnInWalk 60 = .ok (.ireturn, 1) := by decide +kernel
theorem dX2_houseOfTurn_0 : decode cX2_houseOfTurn 0 = .ok (.iconst 0, 1) := by decide +kernel
theorem dX2_houseOfTurn_1 : decode cX2_houseOfTurn 1 = .ok (.istore_n 3, 1) := by decide +kernel
theorem dX2_houseOfTurn_2 : decode cX2_houseOfTurn 2 = .ok (.iload_n 3, 1) := by decide +kernel
theorem dX2_houseOfTurn_3 : decode cX2_houseOfTurn 3 = .ok (.aload_n 0, 1) := by decide +kernel
theorem dX2_houseOfTurn_4 : decode cX2_houseOfTurn 4 = .ok (.getfield 22, 3) := by decide +kernel
theorem dX2_houseOfTurn_7 : decode cX2_houseOfTurn 7 = .ok (.if_icmp .ge 21, 3) := by decide +kernel
theorem dX2_houseOfTurn_10 : decode cX2_houseOfTurn 10 = .ok (.aload_n 0, 1) := by decide +kernel
theorem dX2_houseOfTurn_11 : decode cX2_houseOfTurn 11 = .ok (.aload_n 1, 1) := by decide +kernel
theorem dX2_houseOfTurn_12 : decode cX2_houseOfTurn 12 = .ok (.iload_n 3, 1) := by decide +kernel
theorem dX2_houseOfTurn_13 : decode cX2_houseOfTurn 13 = .ok (.invokevirtual 92, 3) := by decide +kernel
theorem dX2_houseOfTurn_16 : decode cX2_houseOfTurn 16 = .ok (.iload_n 2, 1) := by decide +kernel
theorem dX2_houseOfTurn_17 : decode cX2_houseOfTurn 17 = .ok (.if_icmp .ne 5, 3) := by decide +kernel
theorem dX2_houseOfTurn_20 : decode cX2_houseOfTurn 20 = .ok (.iload_n 3, 1) := by decide +kernel
theorem dX2_houseOfTurn_21 : decode cX2_houseOfTurn 21 = .ok (.ireturn, 1) := by decide +kernel
theorem dX2_houseOfTurn_22 : decode cX2_houseOfTurn 22 = .ok (.iinc 3 1, 3) := by decide +kernel
theorem dX2_houseOfTurn_25 : decode cX2_houseOfTurn 25 = .ok (.goto (-23), 3) := by decide +kernel
theorem dX2_houseOfTurn_28 : decode cX2_houseOfTurn 28 = .ok (.iconst 0, 1) := by decide +kernel
theorem dX2_houseOfTurn_29 : decode cX2_houseOfTurn 29 = .ok (.ireturn, 1) := by decide +kernel
theorem dX2_lengthOfWalk_0 : decode cX2_lengthOfWalk 0 = .ok (.iconst 0, 1) := by decide +kernel
theorem dX2_lengthOfWalk_1 : decode cX2_lengthOfWalk 1 = .ok (.istore_n 2, 1) := by decide +kernel
theorem dX2_lengthOfWalk_2 : decode cX2_lengthOfWalk 2 = .ok (.iconst 0, 1) := by decide +kernel
theorem dX2_lengthOfWalk_3 : decode cX2_lengthOfWalk 3 = .ok (.istore_n 3, 1) := by decide +kernel
theorem dX2_lengthOfWalk_4 : decode cX2_lengthOfWalk 4 = .ok (.iconst 0, 1) := by decide +kernel
theorem dX2_lengthOfWalk_5 : decode cX2_lengthOfWalk 5 = .ok (.istore 4, 2) := by decide +kernel
theorem dX2_lengthOfWalk_7 : decode cX2_lengthOfWalk 7 = .ok (.iload 4, 2) := by decide +kernel
theorem dX2_lengthOfWalk_9 : decode cX2_lengthOfWalk 9 = .ok (.aload_n 0, 1) := by decide +kernel
theorem dX2_lengthOfWalk_10 : decode cX2_lengthOfWalk 10 = .ok (.getfield 22, 3) := by decide +kernel
theorem dX2_lengthOfWalk_13 : decode cX2_lengthOfWalk 13 = .ok (.if_icmp .ge 31, 3) := by decide +kernel
theorem dX2_lengthOfWalk_16 : decode cX2_lengthOfWalk 16 = .ok (.aload_n 0, 1) := by decide +kernel
theorem dX2_lengthOfWalk_17 : decode cX2_lengthOfWalk 17 = .ok (.aload_n 1, 1) := by decide +kernel
theorem dX2_lengthOfWalk_18 : decode cX2_lengthOfWalk 18 = .ok (.iload 4, 2) := by decide +kernel
theorem dX2_lengthOfWalk_20 : decode cX2_lengthOfWalk 20 = .ok (.invokevirtual 250, 3) := by decide +kernel
theorem dX2_lengthOfWalk_23 : decode cX2_lengthOfWalk 23 = .ok (.istore 5, 2) := by decide +kernel
theorem dX2_lengthOfWalk_25 : decode cX2_lengthOfWalk 25 = .ok (.iload_n 2, 1) := by decide +kernel
theorem dX2_lengthOfWalk_26 : decode cX2_lengthOfWalk 26 = .ok (.iload 5, 2) := by decide +kernel
theorem dX2_lengthOfWalk_28 : decode cX2_lengthOfWalk 28 = .ok (.iload_n 3, 1) := by decide +kernel
theorem dX2_lengthOfWalk_29 : decode cX2_lengthOfWalk 29 = .ok (.isub, 1) := by decide +kernel
theorem dX2_lengthOfWalk_30 : decode cX2_lengthOfWalk 30 = .ok (.invokestatic 253, 3) := by decide +kernel
theorem dX2_lengthOfWalk_33 : decode cX2_lengthOfWalk 33 = .ok (.iadd, 1) := by decide +kernel
theorem dX2_lengthOfWalk_34 : decode cX2_lengthOfWalk 34 = .ok (.istore_n 2, 1) := by decide +kernel
theorem dX2_lengthOfWalk_35 : decode cX2_lengthOfWalk 35 = .ok (.iload 5, 2) := by decide +kernel
theorem dX2_lengthOfWalk_37 : decode cX2_lengthOfWalk 37 = .ok (.istore_n 3, 1) := by decide +kernel
theorem dX2_lengthOfWalk_38 : decode cX2_lengthOfWalk 38 = .ok (.iinc 4 1, 3) := by decide +kernel
theorem dX2_lengthOfWalk_41 : decode cX2_lengthOfWalk 41 = .ok (.goto (-34), 3) := by decide +kernel
theorem dX2_lengthOfWalk_44 : decode cX2_lengthOfWalk 44 = .ok (.iload_n 2, 1) := by decide +kernel
theorem dX2_lengthOfWalk_45 : decode cX2_lengthOfWalk 45 = .ok (.ireturn, 1) := by decide +kernel
theorem dX2_isDay_0 : decode cX2_isDay 0 = .ok (.aload_n 0, 1) := by decide +kernel
theorem dX2_isDay_1 : decode cX2_isDay 1 = .ok (.getfield 22, 3) := by decide +kernel
theorem dX2_isDay_4 : decode cX2_isDay 4 = .ok (.ifCond .le 22, 3) := by decide +kernel
theorem dX2_isDay_7 : decode cX2_isDay 7 = .ok (.iload_n 1, 1) := by decide +kernel
theorem dX2_isDay_8 : decode cX2_isDay 8 = .ok (.ifCond .lt 18, 3) := by decide +kernel
theorem dX2_isDay_11 : decode cX2_isDay 11 = .ok (.iload_n 1, 1) := by decide +kernel
theorem dX2_isDay_12 : decode cX2_isDay 12 = .ok (.aload_n 0, 1) := by decide +kernel
theorem dX2_isDay_13 : decode cX2_isDay 13 = .ok (.getfield 34, 3) := by decide +kernel
theorem dX2_isDay_16 : decode cX2_isDay 16 = .ok (.getfield 112, 3) := by decide +kernel
theorem dX2_isDay_19 : decode cX2_isDay 19 = .ok (.if_icmp .gt 7, 3) := by decide +kernel
theorem dX2_isDay_22 : decode cX2_isDay 22 = .ok (.iconst 1, 1) := by decide +kernel
theorem dX2_isDay_23 : decode cX2_isDay 23 = .ok (.goto 4, 3) := by decide +kernel
theorem dX2_isDay_26 : decode cX2_isDay 26 = .ok (.iconst 0, 1) := by decide +kernel
theorem dX2_isDay_27 : decode cX2_isDay 27 = .ok (.ireturn, 1) := by decide +kernel
theorem dX2_cellOf_0 : decode cX2_cellOf 0 = .ok (.iload_n 1, 1) := by decide +kernel
theorem dX2_cellOf_1 : decode cX2_cellOf 1 = .ok (.bipush 6, 2) := by decide +kernel
theorem dX2_cellOf_3 : decode cX2_cellOf 3 = .ok (.imul, 1) := by decide +kernel
theorem dX2_cellOf_4 : decode cX2_cellOf 4 = .ok (.iload_n 0, 1) := by decide +kernel
theorem dX2_cellOf_5 : decode cX2_cellOf 5 = .ok (.iadd, 1) := by decide +kernel
theorem dX2_cellOf_6 : decode cX2_cellOf 6 = .ok (.ireturn, 1) := by decide +kernel
theorem dX2_numberNow_0 : decode cX2_numberNow 0 = .ok (.aload_n 0, 1) := by decide +kernel
theorem dX2_numberNow_1 : decode cX2_numberNow 1 = .ok (.aload_n 0, 1) := by decide +kernel
theorem dX2_numberNow_2 : decode cX2_numberNow 2 = .ok (.getfield 34, 3) := by decide +kernel
theorem dX2_numberNow_5 : decode cX2_numberNow 5 = .ok (.getfield 76, 3) := by decide +kernel
theorem dX2_numberNow_8 : decode cX2_numberNow 8 = .ok (.iload_n 1, 1) := by decide +kernel
theorem dX2_numberNow_9 : decode cX2_numberNow 9 = .ok (.invokevirtual 247, 3) := by decide +kernel
theorem dX2_numberNow_12 : decode cX2_numberNow 12 = .ok (.ireturn, 1) := by decide +kernel
theorem dX2_numberOn_0 : decode cX2_numberOn 0 = .ok (.iload_n 2, 1) := by decide +kernel
theorem dX2_numberOn_1 : decode cX2_numberOn 1 = .ok (.aload_n 0, 1) := by decide +kernel
theorem dX2_numberOn_2 : decode cX2_numberOn 2 = .ok (.getfield 34, 3) := by decide +kernel
theorem dX2_numberOn_5 : decode cX2_numberOn 5 = .ok (.getfield 112, 3) := by decide +kernel
theorem dX2_numberOn_8 : decode cX2_numberOn 8 = .ok (.if_icmp .ne 17, 3) := by decide +kernel
theorem dX2_numberOn_11 : decode cX2_numberOn 11 = .ok (.aload_n 0, 1) := by decide +kernel
theorem dX2_numberOn_12 : decode cX2_numberOn 12 = .ok (.getfield 34, 3) := by decide +kernel
theorem dX2_numberOn_15 : decode cX2_numberOn 15 = .ok (.getfield 76, 3) := by decide +kernel
theorem dX2_numberOn_18 : decode cX2_numberOn 18 = .ok (.iload_n 1, 1) := by decide +kernel
theorem dX2_numberOn_19 : decode cX2_numberOn 19 = .ok (.invokevirtual 58, 3) := by decide +kernel
theorem dX2_numberOn_22 : decode cX2_numberOn 22 = .ok (.goto 18, 3) := by decide +kernel
theorem dX2_numberOn_25 : decode cX2_numberOn 25 = .ok (.aload_n 0, 1) := by decide +kernel
theorem dX2_numberOn_26 : decode cX2_numberOn 26 = .ok (.getfield 34, 3) := by decide +kernel
theorem dX2_numberOn_29 : decode cX2_numberOn 29 = .ok (.getfield 115, 3) := by decide +kernel
theorem dX2_numberOn_32 : decode cX2_numberOn 32 = .ok (.iload_n 1, 1) := by decide +kernel
theorem dX2_numberOn_33 : decode cX2_numberOn 33 = .ok (.iload_n 2, 1) := by decide +kernel
theorem dX2_numberOn_34 : decode cX2_numberOn 34 = .ok (.invokestatic 118, 3) := by decide +kernel
theorem dX2_numberOn_37 : decode cX2_numberOn 37 = .ok (.invokevirtual 58, 3) := by decide +kernel
theorem dX2_numberOn_40 : decode cX2_numberOn 40 = .ok (.istore_n 3, 1) := by decide +kernel
theorem dX2_numberOn_41 : decode cX2_numberOn 41 = .ok (.aload_n 0, 1) := by decide +kernel
theorem dX2_numberOn_42 : decode cX2_numberOn 42 = .ok (.getfield 28, 3) := by decide +kernel
theorem dX2_numberOn_45 : decode cX2_numberOn 45 = .ok (.iload_n 1, 1) := by decide +kernel
theorem dX2_numberOn_46 : decode cX2_numberOn 46 = .ok (.invokevirtual 58, 3) := by decide +kernel
theorem dX2_numberOn_49 : decode cX2_numberOn 49 = .ok (.iload_n 3, 1) := by decide +kernel
theorem dX2_numberOn_50 : decode cX2_numberOn 50 = .ok (.invokestatic 156, 3) := by decide +kernel
theorem dX2_numberOn_53 : decode cX2_numberOn 53 = .ok (.ireturn, 1) := by decide +kernel
theorem dX2_houseWith_0 : decode cX2_houseWith 0 = .ok (.iconst 0, 1) := by decide +kernel
theorem dX2_houseWith_1 : decode cX2_houseWith 1 = .ok (.istore_n 3, 1) := by decide +kernel
theorem dX2_houseWith_2 : decode cX2_houseWith 2 = .ok (.iload_n 3, 1) := by decide +kernel
theorem dX2_houseWith_3 : decode cX2_houseWith 3 = .ok (.aload_n 0, 1) := by decide +kernel
theorem dX2_houseWith_4 : decode cX2_houseWith 4 = .ok (.getfield 22, 3) := by decide +kernel
theorem dX2_houseWith_7 : decode cX2_houseWith 7 = .ok (.if_icmp .ge 21, 3) := by decide +kernel
theorem dX2_houseWith_10 : decode cX2_houseWith 10 = .ok (.aload_n 0, 1) := by decide +kernel
theorem dX2_houseWith_11 : decode cX2_houseWith 11 = .ok (.iload_n 3, 1) := by decide +kernel
theorem dX2_houseWith_12 : decode cX2_houseWith 12 = .ok (.iload_n 2, 1) := by decide +kernel
theorem dX2_houseWith_13 : decode cX2_houseWith 13 = .ok (.invokevirtual 129, 3) := by decide +kernel
theorem dX2_houseWith_16 : decode cX2_houseWith 16 = .ok (.iload_n 1, 1) := by decide +kernel
theorem dX2_houseWith_17 : decode cX2_houseWith 17 = .ok (.if_icmp .ne 5, 3) := by decide +kernel
theorem dX2_houseWith_20 : decode cX2_houseWith 20 = .ok (.iload_n 3, 1) := by decide +kernel
theorem dX2_houseWith_21 : decode cX2_houseWith 21 = .ok (.ireturn, 1) := by decide +kernel
theorem dX2_houseWith_22 : decode cX2_houseWith 22 = .ok (.iinc 3 1, 3) := by decide +kernel
theorem dX2_houseWith_25 : decode cX2_houseWith 25 = .ok (.goto (-23), 3) := by decide +kernel
theorem dX2_houseWith_28 : decode cX2_houseWith 28 = .ok (.iconst (-1), 1) := by decide +kernel
theorem dX2_houseWith_29 : decode cX2_houseWith 29 = .ok (.ireturn, 1) := by decide +kernel
theorem dX2_unlikeNumbers_0 : decode cX2_unlikeNumbers 0 = .ok (.iconst 0, 1) := by decide +kernel
theorem dX2_unlikeNumbers_1 : decode cX2_unlikeNumbers 1 = .ok (.istore_n 1, 1) := by decide +kernel
theorem dX2_unlikeNumbers_2 : decode cX2_unlikeNumbers 2 = .ok (.iconst 0, 1) := by decide +kernel
theorem dX2_unlikeNumbers_3 : decode cX2_unlikeNumbers 3 = .ok (.istore_n 2, 1) := by decide +kernel
theorem dX2_unlikeNumbers_4 : decode cX2_unlikeNumbers 4 = .ok (.iload_n 2, 1) := by decide +kernel
theorem dX2_unlikeNumbers_5 : decode cX2_unlikeNumbers 5 = .ok (.aload_n 0, 1) := by decide +kernel
theorem dX2_unlikeNumbers_6 : decode cX2_unlikeNumbers 6 = .ok (.getfield 22, 3) := by decide +kernel
theorem dX2_unlikeNumbers_9 : decode cX2_unlikeNumbers 9 = .ok (.if_icmp .ge 32, 3) := by decide +kernel
theorem dX2_unlikeNumbers_12 : decode cX2_unlikeNumbers 12 = .ok (.aload_n 0, 1) := by decide +kernel
theorem dX2_unlikeNumbers_13 : decode cX2_unlikeNumbers 13 = .ok (.aload_n 0, 1) := by decide +kernel
theorem dX2_unlikeNumbers_14 : decode cX2_unlikeNumbers 14 = .ok (.iload_n 2, 1) := by decide +kernel
theorem dX2_unlikeNumbers_15 : decode cX2_unlikeNumbers 15 = .ok (.invokevirtual 83, 3) := by decide +kernel
theorem dX2_unlikeNumbers_18 : decode cX2_unlikeNumbers 18 = .ok (.aload_n 0, 1) := by decide +kernel
theorem dX2_unlikeNumbers_19 : decode cX2_unlikeNumbers 19 = .ok (.getfield 34, 3) := by decide +kernel
theorem dX2_unlikeNumbers_22 : decode cX2_unlikeNumbers 22 = .ok (.getfield 112, 3) := by decide +kernel
theorem dX2_unlikeNumbers_25 : decode cX2_unlikeNumbers 25 = .ok (.invokevirtual 132, 3) := by decide +kernel
theorem dX2_unlikeNumbers_28 : decode cX2_unlikeNumbers 28 = .ok (.iload_n 2, 1) := by decide +kernel
theorem dX2_unlikeNumbers_29 : decode cX2_unlikeNumbers 29 = .ok (.if_icmp .ne 6, 3) := by decide +kernel
theorem dX2_unlikeNumbers_32 : decode cX2_unlikeNumbers 32 = .ok (.iinc 1 1, 3) := by decide +kernel
theorem dX2_unlikeNumbers_35 : decode cX2_unlikeNumbers 35 = .ok (.iinc 2 1, 3) := by decide +kernel
theorem dX2_unlikeNumbers_38 : decode cX2_unlikeNumbers 38 = .ok (.goto (-34), 3) := by decide +kernel
theorem dX2_unlikeNumbers_41 : decode cX2_unlikeNumbers 41 = .ok (.iload_n 1, 1) := by decide +kernel
theorem dX2_unlikeNumbers_42 : decode cX2_unlikeNumbers 42 = .ok (.ireturn, 1) := by decide +kernel
theorem dX2_owedBy_0 : decode cX2_owedBy 0 = .ok (.iconst 0, 1) := by decide +kernel
theorem dX2_owedBy_1 : decode cX2_owedBy 1 = .ok (.istore_n 2, 1) := by decide +kernel
theorem dX2_owedBy_2 : decode cX2_owedBy 2 = .ok (.iconst 0, 1) := by decide +kernel
theorem dX2_owedBy_3 : decode cX2_owedBy 3 = .ok (.istore_n 3, 1) := by decide +kernel
theorem dX2_owedBy_4 : decode cX2_owedBy 4 = .ok (.iload_n 3, 1) := by decide +kernel
theorem dX2_owedBy_5 : decode cX2_owedBy 5 = .ok (.aload_n 0, 1) := by decide +kernel
theorem dX2_owedBy_6 : decode cX2_owedBy 6 = .ok (.getfield 34, 3) := by decide +kernel
theorem dX2_owedBy_9 : decode cX2_owedBy 9 = .ok (.getfield 139, 3) := by decide +kernel
theorem dX2_owedBy_12 : decode cX2_owedBy 12 = .ok (.if_icmp .ge 49, 3) := by decide +kernel
theorem dX2_owedBy_15 : decode cX2_owedBy 15 = .ok (.aload_n 0, 1) := by decide +kernel
theorem dX2_owedBy_16 : decode cX2_owedBy 16 = .ok (.aload_n 0, 1) := by decide +kernel
theorem dX2_owedBy_17 : decode cX2_owedBy 17 = .ok (.getfield 34, 3) := by decide +kernel
theorem dX2_owedBy_20 : decode cX2_owedBy 20 = .ok (.getfield 145, 3) := by decide +kernel
theorem dX2_owedBy_23 : decode cX2_owedBy 23 = .ok (.iload_n 3, 1) := by decide +kernel
theorem dX2_owedBy_24 : decode cX2_owedBy 24 = .ok (.invokevirtual 58, 3) := by decide +kernel
theorem dX2_owedBy_27 : decode cX2_owedBy 27 = .ok (.aload_n 0, 1) := by decide +kernel
theorem dX2_owedBy_28 : decode cX2_owedBy 28 = .ok (.getfield 34, 3) := by decide +kernel
theorem dX2_owedBy_31 : decode cX2_owedBy 31 = .ok (.getfield 112, 3) := by decide +kernel
theorem dX2_owedBy_34 : decode cX2_owedBy 34 = .ok (.invokevirtual 132, 3) := by decide +kernel
theorem dX2_owedBy_37 : decode cX2_owedBy 37 = .ok (.iload_n 1, 1) := by decide +kernel
theorem dX2_owedBy_38 : decode cX2_owedBy 38 = .ok (.if_icmp .ne 17, 3) := by decide +kernel
theorem dX2_owedBy_41 : decode cX2_owedBy 41 = .ok (.iload_n 2, 1) := by decide +kernel
theorem dX2_owedBy_42 : decode cX2_owedBy 42 = .ok (.aload_n 0, 1) := by decide +kernel
theorem dX2_owedBy_43 : decode cX2_owedBy 43 = .ok (.getfield 34, 3) := by decide +kernel
theorem dX2_owedBy_46 : decode cX2_owedBy 46 = .ok (.getfield 142, 3) := by decide +kernel
theorem dX2_owedBy_49 : decode cX2_owedBy 49 = .ok (.iload_n 3, 1) := by decide +kernel
theorem dX2_owedBy_50 : decode cX2_owedBy 50 = .ok (.invokevirtual 58, 3) := by decide +kernel
theorem dX2_owedBy_53 : decode cX2_owedBy 53 = .ok (.iadd, 1) := by decide +kernel
theorem dX2_owedBy_54 : decode cX2_owedBy 54 = .ok (.istore_n 2, 1) := by decide +kernel
theorem dX2_owedBy_55 : decode cX2_owedBy 55 = .ok (.iinc 3 1, 3) := by decide +kernel
theorem dX2_owedBy_58 : decode cX2_owedBy 58 = .ok (.goto (-54), 3) := by decide +kernel
theorem dX2_owedBy_61 : decode cX2_owedBy 61 = .ok (.iload_n 2, 1) := by decide +kernel
theorem dX2_owedBy_62 : decode cX2_owedBy 62 = .ok (.ireturn, 1) := by decide +kernel
theorem dX2_owedByAll_0 : decode cX2_owedByAll 0 = .ok (.iconst 0, 1) := by decide +kernel
theorem dX2_owedByAll_1 : decode cX2_owedByAll 1 = .ok (.istore_n 1, 1) := by decide +kernel
theorem dX2_owedByAll_2 : decode cX2_owedByAll 2 = .ok (.iconst 0, 1) := by decide +kernel
theorem dX2_owedByAll_3 : decode cX2_owedByAll 3 = .ok (.istore_n 2, 1) := by decide +kernel
theorem dX2_owedByAll_4 : decode cX2_owedByAll 4 = .ok (.iload_n 2, 1) := by decide +kernel
theorem dX2_owedByAll_5 : decode cX2_owedByAll 5 = .ok (.aload_n 0, 1) := by decide +kernel
theorem dX2_owedByAll_6 : decode cX2_owedByAll 6 = .ok (.getfield 22, 3) := by decide +kernel
theorem dX2_owedByAll_9 : decode cX2_owedByAll 9 = .ok (.if_icmp .ge 17, 3) := by decide +kernel
theorem dX2_owedByAll_12 : decode cX2_owedByAll 12 = .ok (.iload_n 1, 1) := by decide +kernel
theorem dX2_owedByAll_13 : decode cX2_owedByAll 13 = .ok (.aload_n 0, 1) := by decide +kernel
theorem dX2_owedByAll_14 : decode cX2_owedByAll 14 = .ok (.iload_n 2, 1) := by decide +kernel
theorem dX2_owedByAll_15 : decode cX2_owedByAll 15 = .ok (.invokevirtual 89, 3) := by decide +kernel
theorem dX2_owedByAll_18 : decode cX2_owedByAll 18 = .ok (.iadd, 1) := by decide +kernel
theorem dX2_owedByAll_19 : decode cX2_owedByAll 19 = .ok (.istore_n 1, 1) := by decide +kernel
theorem dX2_owedByAll_20 : decode cX2_owedByAll 20 = .ok (.iinc 2 1, 3) := by decide +kernel
theorem dX2_owedByAll_23 : decode cX2_owedByAll 23 = .ok (.goto (-19), 3) := by decide +kernel
theorem dX2_owedByAll_26 : decode cX2_owedByAll 26 = .ok (.iload_n 1, 1) := by decide +kernel
theorem dX2_owedByAll_27 : decode cX2_owedByAll 27 = .ok (.ireturn, 1) := by decide +kernel
theorem dX2_nextSeed_0 : decode cX2_nextSeed 0 = .ok (.ldc2_w 273, 3) := by decide +kernel
theorem dX2_nextSeed_3 : decode cX2_nextSeed 3 = .ok (.iload_n 0, 1) := by decide +kernel
theorem dX2_nextSeed_4 : decode cX2_nextSeed 4 = .ok (.i2l, 1) := by decide +kernel
theorem dX2_nextSeed_5 : decode cX2_nextSeed 5 = .ok (.lmul, 1) := by decide +kernel
theorem dX2_nextSeed_6 : decode cX2_nextSeed 6 = .ok (.ldc2_w 275, 3) := by decide +kernel
theorem dX2_nextSeed_9 : decode cX2_nextSeed 9 = .ok (.ladd, 1) := by decide +kernel
theorem dX2_nextSeed_10 : decode cX2_nextSeed 10 = .ok (.ldc2_w 277, 3) := by decide +kernel
theorem dX2_nextSeed_13 : decode cX2_nextSeed 13 = .ok (.lrem, 1) := by decide +kernel
theorem dX2_nextSeed_14 : decode cX2_nextSeed 14 = .ok (.l2i, 1) := by decide +kernel
theorem dX2_nextSeed_15 : decode cX2_nextSeed 15 = .ok (.ireturn, 1) := by decide +kernel
theorem dX2_drawnHouse_0 : decode cX2_drawnHouse 0 = .ok (.aload_n 0, 1) := by decide +kernel
theorem dX2_drawnHouse_1 : decode cX2_drawnHouse 1 = .ok (.getfield 22, 3) := by decide +kernel
theorem dX2_drawnHouse_4 : decode cX2_drawnHouse 4 = .ok (.iconst 1, 1) := by decide +kernel
theorem dX2_drawnHouse_5 : decode cX2_drawnHouse 5 = .ok (.if_icmp .ge 7, 3) := by decide +kernel
theorem dX2_drawnHouse_8 : decode cX2_drawnHouse 8 = .ok (.iconst 0, 1) := by decide +kernel
theorem dX2_drawnHouse_9 : decode cX2_drawnHouse 9 = .ok (.goto 13, 3) := by decide +kernel
theorem dX2_drawnHouse_12 : decode cX2_drawnHouse 12 = .ok (.iload_n 1, 1) := by decide +kernel
theorem dX2_drawnHouse_13 : decode cX2_drawnHouse 13 = .ok (.ldc_w 279, 3) := by decide +kernel
theorem dX2_drawnHouse_16 : decode cX2_drawnHouse 16 = .ok (.idiv, 1) := by decide +kernel
theorem dX2_drawnHouse_17 : decode cX2_drawnHouse 17 = .ok (.aload_n 0, 1) := by decide +kernel
theorem dX2_drawnHouse_18 : decode cX2_drawnHouse 18 = .ok (.getfield 22, 3) := by decide +kernel
theorem dX2_drawnHouse_21 : decode cX2_drawnHouse 21 = .ok (.irem, 1) := by decide +kernel
theorem dX2_drawnHouse_22 : decode cX2_drawnHouse 22 = .ok (.ireturn, 1) := by decide +kernel
theorem dJ9_abs_0f7a4_0 : decode cJ9_abs_0f7a4 0 = .ok (.iload_n 0, 1) := by decide +kernel
theorem dJ9_abs_0f7a4_1 : decode cJ9_abs_0f7a4 1 = .ok (.ifCond .ge 8, 3) := by decide +kernel
theorem dJ9_abs_0f7a4_4 : decode cJ9_abs_0f7a4 4 = .ok (.iload_n 0, 1) := by decide +kernel
theorem dJ9_abs_0f7a4_5 : decode cJ9_abs_0f7a4 5 = .ok (.ineg, 1) := by decide +kernel
theorem dJ9_abs_0f7a4_6 : decode cJ9_abs_0f7a4 6 = .ok (.goto 4, 3) := by decide +kernel
theorem dJ9_abs_0f7a4_9 : decode cJ9_abs_0f7a4 9 = .ok (.iload_n 0, 1) := by decide +kernel
theorem dJ9_abs_0f7a4_10 : decode cJ9_abs_0f7a4 10 = .ok (.ireturn, 1) := by decide +kernel
theorem dJ0_length_8abf5_0 : decode cJ0_length_8abf5 0 = .ok (.aload_n 0, 1) := by decide +kernel
theorem dJ0_length_8abf5_1 : decode cJ0_length_8abf5 1 = .ok (.getfield 9, 3) := by decide +kernel
theorem dJ0_length_8abf5_4 : decode cJ0_length_8abf5 4 = .ok (.arraylength, 1) := by decide +kernel
theorem dJ0_length_8abf5_5 : decode cJ0_length_8abf5 5 = .ok (.aload_n 0, 1) := by decide +kernel
theorem dJ0_length_8abf5_6 : decode cJ0_length_8abf5 6 = .ok (.invokevirtual 335, 3) := by decide +kernel
theorem dJ0_length_8abf5_9 : decode cJ0_length_8abf5 9 = .ok (.ishr, 1) := by decide +kernel
theorem dJ0_length_8abf5_10 : decode cJ0_length_8abf5 10 = .ok (.ireturn, 1) := by decide +kernel
theorem dJ0_charAt_5068e_0 : decode cJ0_charAt_5068e 0 = .ok (.aload_n 0, 1) := by decide +kernel
theorem dJ0_charAt_5068e_1 : decode cJ0_charAt_5068e 1 = .ok (.invokevirtual 492, 3) := by decide +kernel
theorem dJ0_charAt_5068e_4 : decode cJ0_charAt_5068e 4 = .ok (.ifCond .eq 12, 3) := by decide +kernel
theorem dJ0_charAt_5068e_7 : decode cJ0_charAt_5068e 7 = .ok (.aload_n 0, 1) := by decide +kernel
theorem dJ0_charAt_5068e_8 : decode cJ0_charAt_5068e 8 = .ok (.getfield 9, 3) := by decide +kernel
theorem dJ0_charAt_5068e_11 : decode cJ0_charAt_5068e 11 = .ok (.iload_n 1, 1) := by decide +kernel
theorem dJ0_charAt_5068e_12 : decode cJ0_charAt_5068e 12 = .ok (.invokestatic 495, 3) := by decide +kernel
theorem dJ0_charAt_5068e_15 : decode cJ0_charAt_5068e 15 = .ok (.ireturn, 1) := by decide +kernel
theorem dJ0_charAt_5068e_16 : decode cJ0_charAt_5068e 16 = .ok (.aload_n 0, 1) := by decide +kernel
theorem dJ0_charAt_5068e_17 : decode cJ0_charAt_5068e 17 = .ok (.getfield 9, 3) := by decide +kernel
theorem dJ0_charAt_5068e_20 : decode cJ0_charAt_5068e 20 = .ok (.iload_n 1, 1) := by decide +kernel
theorem dJ0_charAt_5068e_21 : decode cJ0_charAt_5068e 21 = .ok (.invokestatic 498, 3) := by decide +kernel
theorem dJ0_charAt_5068e_24 : decode cJ0_charAt_5068e 24 = .ok (.ireturn, 1) := by decide +kernel
theorem dJ0_coder_7d493_0 : decode cJ0_coder_7d493 0 = .ok (.getstatic 38, 3) := by decide +kernel
theorem dJ0_coder_7d493_3 : decode cJ0_coder_7d493 3 = .ok (.ifCond .eq 10, 3) := by decide +kernel
theorem dJ0_coder_7d493_6 : decode cJ0_coder_7d493 6 = .ok (.aload_n 0, 1) := by decide +kernel
theorem dJ0_coder_7d493_7 : decode cJ0_coder_7d493 7 = .ok (.getfield 15, 3) := by decide +kernel
theorem dJ0_coder_7d493_10 : decode cJ0_coder_7d493 10 = .ok (.goto 4, 3) := by decide +kernel
theorem dJ0_coder_7d493_13 : decode cJ0_coder_7d493 13 = .ok (.iconst 1, 1) := by decide +kernel
theorem dJ0_coder_7d493_14 : decode cJ0_coder_7d493 14 = .ok (.ireturn, 1) := by decide +kernel
theorem dJ0_isLatin1_aae02_0 : decode cJ0_isLatin1_aae02 0 = .ok (.getstatic 38, 3) := by decide +kernel
theorem dJ0_isLatin1_aae02_3 : decode cJ0_isLatin1_aae02 3 = .ok (.ifCond .eq 14, 3) := by decide +kernel
theorem dJ0_isLatin1_aae02_6 : decode cJ0_isLatin1_aae02 6 = .ok (.aload_n 0, 1) := by decide +kernel
theorem dJ0_isLatin1_aae02_7 : decode cJ0_isLatin1_aae02 7 = .ok (.getfield 15, 3) := by decide +kernel
theorem dJ0_isLatin1_aae02_10 : decode cJ0_isLatin1_aae02 10 = .ok (.ifCond .ne 7, 3) := by decide +kernel
theorem dJ0_isLatin1_aae02_13 : decode cJ0_isLatin1_aae02 13 = .ok (.iconst 1, 1) := by decide +kernel
theorem dJ0_isLatin1_aae02_14 : decode cJ0_isLatin1_aae02 14 = .ok (.goto 4, 3) := by decide +kernel
theorem dJ0_isLatin1_aae02_17 : decode cJ0_isLatin1_aae02 17 = .ok (.iconst 0, 1) := by decide +kernel
theorem dJ0_isLatin1_aae02_18 : decode cJ0_isLatin1_aae02 18 = .ok (.ireturn, 1) := by decide +kernel
theorem dJ0_checkIndex_df160_0 : decode cJ0_checkIndex_df160 0 = .ok (.iload_n 0, 1) := by decide +kernel
theorem dJ0_checkIndex_df160_1 : decode cJ0_checkIndex_df160 1 = .ok (.iload_n 1, 1) := by decide +kernel
theorem dJ0_checkIndex_df160_2 : decode cJ0_checkIndex_df160 2 = .ok (.getstatic 1053, 3) := by decide +kernel
theorem dJ0_checkIndex_df160_5 : decode cJ0_checkIndex_df160 5 = .ok (.invokestatic 1059, 3) := by decide +kernel
theorem dJ0_checkIndex_df160_8 : decode cJ0_checkIndex_df160 8 = .ok (.pop, 1) := by decide +kernel
theorem dJ0_checkIndex_df160_9 : decode cJ0_checkIndex_df160 9 = .ok (.return_, 1) := by decide +kernel
theorem dJ1_charAt_3b067_0 : decode cJ1_charAt_3b067 0 = .ok (.iload_n 1, 1) := by decide +kernel
theorem dJ1_charAt_3b067_1 : decode cJ1_charAt_3b067 1 = .ok (.aload_n 0, 1) := by decide +kernel
theorem dJ1_charAt_3b067_2 : decode cJ1_charAt_3b067 2 = .ok (.arraylength, 1) := by decide +kernel
theorem dJ1_charAt_3b067_3 : decode cJ1_charAt_3b067 3 = .ok (.invokestatic 9, 3) := by decide +kernel
theorem dJ1_charAt_3b067_6 : decode cJ1_charAt_3b067 6 = .ok (.aload_n 0, 1) := by decide +kernel
theorem dJ1_charAt_3b067_7 : decode cJ1_charAt_3b067 7 = .ok (.iload_n 1, 1) := by decide +kernel
theorem dJ1_charAt_3b067_8 : decode cJ1_charAt_3b067 8 = .ok (.baload, 1) := by decide +kernel
theorem dJ1_charAt_3b067_9 : decode cJ1_charAt_3b067 9 = .ok (.sipush 255, 3) := by decide +kernel
theorem dJ1_charAt_3b067_12 : decode cJ1_charAt_3b067 12 = .ok (.iand, 1) := by decide +kernel
theorem dJ1_charAt_3b067_13 : decode cJ1_charAt_3b067 13 = .ok (.i2c, 1) := by decide +kernel
theorem dJ1_charAt_3b067_14 : decode cJ1_charAt_3b067 14 = .ok (.ireturn, 1) := by decide +kernel
theorem dJ2_getChar_3b067_0 : decode cJ2_getChar_3b067 0 = .ok (.getstatic 44, 3) := by decide +kernel
theorem dJ2_getChar_3b067_3 : decode cJ2_getChar_3b067 3 = .ok (.ifCond .ne 25, 3) := by decide +kernel
theorem dJ2_getChar_3b067_6 : decode cJ2_getChar_3b067 6 = .ok (.iload_n 1, 1) := by decide +kernel
theorem dJ2_getChar_3b067_7 : decode cJ2_getChar_3b067 7 = .ok (.ifCond .lt 11, 3) := by decide +kernel
theorem dJ2_getChar_3b067_10 : decode cJ2_getChar_3b067 10 = .ok (.iload_n 1, 1) := by decide +kernel
theorem dJ2_getChar_3b067_11 : decode cJ2_getChar_3b067 11 = .ok (.aload_n 0, 1) := by decide +kernel
theorem dJ2_getChar_3b067_12 : decode cJ2_getChar_3b067 12 = .ok (.invokestatic 48, 3) := by decide +kernel
theorem dJ2_getChar_3b067_15 : decode cJ2_getChar_3b067 15 = .ok (.if_icmp .lt 13, 3) := by decide +kernel
theorem dJ2_getChar_3b067_18 : decode cJ2_getChar_3b067 18 = .ok (.new 52, 3) := by decide +kernel
theorem dJ2_getChar_3b067_21 : decode cJ2_getChar_3b067 21 = .ok (.dup, 1) := by decide +kernel
theorem dJ2_getChar_3b067_22 : decode cJ2_getChar_3b067 22 = .ok (.ldc 54, 2) := by decide +kernel
theorem dJ2_getChar_3b067_24 : decode cJ2_getChar_3b067 24 = .ok (.invokespecial 56, 3) := by decide +kernel
theorem dJ2_getChar_3b067_27 : decode cJ2_getChar_3b067 27 = .ok (.athrow, 1) := by decide +kernel
theorem dJ2_getChar_3b067_28 : decode cJ2_getChar_3b067 28 = .ok (.iload_n 1, 1) := by decide +kernel
theorem dJ2_getChar_3b067_29 : decode cJ2_getChar_3b067 29 = .ok (.iconst 1, 1) := by decide +kernel
theorem dJ2_getChar_3b067_30 : decode cJ2_getChar_3b067 30 = .ok (.ishl, 1) := by decide +kernel
theorem dJ2_getChar_3b067_31 : decode cJ2_getChar_3b067 31 = .ok (.istore_n 1, 1) := by decide +kernel
theorem dJ2_getChar_3b067_32 : decode cJ2_getChar_3b067 32 = .ok (.aload_n 0, 1) := by decide +kernel
theorem dJ2_getChar_3b067_33 : decode cJ2_getChar_3b067 33 = .ok (.iload_n 1, 1) := by decide +kernel
theorem dJ2_getChar_3b067_34 : decode cJ2_getChar_3b067 34 = .ok (.iinc 1 1, 3) := by decide +kernel
theorem dJ2_getChar_3b067_37 : decode cJ2_getChar_3b067 37 = .ok (.baload, 1) := by decide +kernel
theorem dJ2_getChar_3b067_38 : decode cJ2_getChar_3b067 38 = .ok (.sipush 255, 3) := by decide +kernel
theorem dJ2_getChar_3b067_41 : decode cJ2_getChar_3b067 41 = .ok (.iand, 1) := by decide +kernel
theorem dJ2_getChar_3b067_42 : decode cJ2_getChar_3b067 42 = .ok (.getstatic 59, 3) := by decide +kernel
theorem dJ2_getChar_3b067_45 : decode cJ2_getChar_3b067 45 = .ok (.ishl, 1) := by decide +kernel
theorem dJ2_getChar_3b067_46 : decode cJ2_getChar_3b067 46 = .ok (.aload_n 0, 1) := by decide +kernel
theorem dJ2_getChar_3b067_47 : decode cJ2_getChar_3b067 47 = .ok (.iload_n 1, 1) := by decide +kernel
theorem dJ2_getChar_3b067_48 : decode cJ2_getChar_3b067 48 = .ok (.baload, 1) := by decide +kernel
theorem dJ2_getChar_3b067_49 : decode cJ2_getChar_3b067 49 = .ok (.sipush 255, 3) := by decide +kernel
theorem dJ2_getChar_3b067_52 : decode cJ2_getChar_3b067 52 = .ok (.iand, 1) := by decide +kernel
theorem dJ2_getChar_3b067_53 : decode cJ2_getChar_3b067 53 = .ok (.getstatic 63, 3) := by decide +kernel
theorem dJ2_getChar_3b067_56 : decode cJ2_getChar_3b067 56 = .ok (.ishl, 1) := by decide +kernel
theorem dJ2_getChar_3b067_57 : decode cJ2_getChar_3b067 57 = .ok (.ior, 1) := by decide +kernel
theorem dJ2_getChar_3b067_58 : decode cJ2_getChar_3b067 58 = .ok (.i2c, 1) := by decide +kernel
theorem dJ2_getChar_3b067_59 : decode cJ2_getChar_3b067 59 = .ok (.ireturn, 1) := by decide +kernel
theorem dJ2_length_9d52b_0 : decode cJ2_length_9d52b 0 = .ok (.aload_n 0, 1) := by decide +kernel
theorem dJ2_length_9d52b_1 : decode cJ2_length_9d52b 1 = .ok (.arraylength, 1) := by decide +kernel
theorem dJ2_length_9d52b_2 : decode cJ2_length_9d52b 2 = .ok (.iconst 1, 1) := by decide +kernel
theorem dJ2_length_9d52b_3 : decode cJ2_length_9d52b 3 = .ok (.ishr, 1) := by decide +kernel
theorem dJ2_length_9d52b_4 : decode cJ2_length_9d52b 4 = .ok (.ireturn, 1) := by decide +kernel
theorem dJ2_charAt_3b067_0 : decode cJ2_charAt_3b067 0 = .ok (.iload_n 1, 1) := by decide +kernel
theorem dJ2_charAt_3b067_1 : decode cJ2_charAt_3b067 1 = .ok (.aload_n 0, 1) := by decide +kernel
theorem dJ2_charAt_3b067_2 : decode cJ2_charAt_3b067 2 = .ok (.invokestatic 67, 3) := by decide +kernel
theorem dJ2_charAt_3b067_5 : decode cJ2_charAt_3b067 5 = .ok (.aload_n 0, 1) := by decide +kernel
theorem dJ2_charAt_3b067_6 : decode cJ2_charAt_3b067 6 = .ok (.iload_n 1, 1) := by decide +kernel
theorem dJ2_charAt_3b067_7 : decode cJ2_charAt_3b067 7 = .ok (.invokestatic 71, 3) := by decide +kernel
theorem dJ2_charAt_3b067_10 : decode cJ2_charAt_3b067 10 = .ok (.ireturn, 1) := by decide +kernel
theorem dJ2_checkIndex_2214a_0 : decode cJ2_checkIndex_2214a 0 = .ok (.iload_n 0, 1) := by decide +kernel
theorem dJ2_checkIndex_2214a_1 : decode cJ2_checkIndex_2214a 1 = .ok (.aload_n 1, 1) := by decide +kernel
theorem dJ2_checkIndex_2214a_2 : decode cJ2_checkIndex_2214a 2 = .ok (.invokestatic 48, 3) := by decide +kernel
theorem dJ2_checkIndex_2214a_5 : decode cJ2_checkIndex_2214a 5 = .ok (.invokestatic 414, 3) := by decide +kernel
theorem dJ2_checkIndex_2214a_8 : decode cJ2_checkIndex_2214a 8 = .ok (.return_, 1) := by decide +kernel
theorem dJ3_checkIndex_8e157_0 : decode cJ3_checkIndex_8e157 0 = .ok (.iload_n 0, 1) := by decide +kernel
theorem dJ3_checkIndex_8e157_1 : decode cJ3_checkIndex_8e157 1 = .ok (.ifCond .lt 8, 3) := by decide +kernel
theorem dJ3_checkIndex_8e157_4 : decode cJ3_checkIndex_8e157 4 = .ok (.iload_n 0, 1) := by decide +kernel
theorem dJ3_checkIndex_8e157_5 : decode cJ3_checkIndex_8e157 5 = .ok (.iload_n 1, 1) := by decide +kernel
theorem dJ3_checkIndex_8e157_6 : decode cJ3_checkIndex_8e157 6 = .ok (.if_icmp .lt 10, 3) := by decide +kernel
theorem dJ3_checkIndex_8e157_9 : decode cJ3_checkIndex_8e157 9 = .ok (.aload_n 2, 1) := by decide +kernel
theorem dJ3_checkIndex_8e157_10 : decode cJ3_checkIndex_8e157 10 = .ok (.iload_n 0, 1) := by decide +kernel
theorem dJ3_checkIndex_8e157_11 : decode cJ3_checkIndex_8e157 11 = .ok (.iload_n 1, 1) := by decide +kernel
theorem dJ3_checkIndex_8e157_12 : decode cJ3_checkIndex_8e157 12 = .ok (.invokestatic 95, 3) := by decide +kernel
theorem dJ3_checkIndex_8e157_15 : decode cJ3_checkIndex_8e157 15 = .ok (.athrow, 1) := by decide +kernel
theorem dJ3_checkIndex_8e157_16 : decode cJ3_checkIndex_8e157 16 = .ok (.iload_n 0, 1) := by decide +kernel
theorem dJ3_checkIndex_8e157_17 : decode cJ3_checkIndex_8e157 17 = .ok (.ireturn, 1) := by decide +kernel
